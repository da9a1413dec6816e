/-! a round, as the reference reads it -/
def seqR (t : Nat → Int32) (n op lo hi c q : Int) : Except (Int × Int) ((Int × Int) × Int) :=
  match numR t n lo hi q with
  | .error e => .error e
  | .ok x => match markR t n c x.2 with
    | .error e => .error e
    | .ok r => .ok ((op, x.1), r)
def itR (t : Nat → Int32) (n h : Int) (o : Nat) (p : Int) : Except (Int × Int) ((Int × Int) × Int) :=
  if ctOf t n p = 2 ∧ wdOf t n p = 28 then seqR t n 0 (0 : Int32).toInt h (59 : Int32).toInt (nxtI t n p)
  else if ctOf t n p = 2 ∧ wdOf t n p = 29 then seqR t n 1 (1 : Int32).toInt (60 : Int32).toInt (59 : Int32).toInt (nxtI t n p)
  else if ctOf t n p = 2 ∧ wdOf t n p = 30 then (if 4 ≤ o then .error (3, tkA t n p) else seqR t n 2 (1 : Int32).toInt (9 : Int32).toInt (40 : Int32).toInt (nxtI t n p))
  else if (ctOf t n p = 4 ∧ sgOf t n p = 41) ∧ 0 < o then .ok ((3, 0), nxtI t n p)
  else .error (1, tkA t n p)
def endR (t : Nat → Int32) (n p : Int) : Bool := decide (ctOf t n p = 0)
def opnG (t : Nat → Int32) (n : Int) (y : (Int × List (Int × Int)) × Int) : Except (Int × Int) ((Int × List (Int × Int)) × Int) := if 0 < y.1.2.length then .error (1, tkA t n y.2) else .ok y
def roundR (t : Nat → Int32) (n h p : Int) : Except (Int × Int) Int := ((rnG (endR t n) (itR t n h) 401 (0, []) p).bind (opnG t n)).bind (fun y => layR y.1.1 (tkA t n y.2))
def IR (t : Nat → Int32) (n : Int) (s : Except (Int × Int) ((Int × Int) × Int)) (op : Int) (L L' : List (Int × Int)) (r rf rp fr sp tok val : Int) : Prop := match s with
  | .error e => r = -1 ∧ rf = e.1 ∧ rp = e.2
  | .ok y => (r ≠ -1 ∧ TKR t n y.2 fr sp tok val) ∧ L' = L ++ [y.1] ∧ y.1.1 = op
def SR (t : Nat → Int32) (n : Int) (s : Except (Int × Int) ((Int × List (Int × Int)) × Int)) (L : List (Int × Int)) (r rf rp fr : Int) : Prop := match s with
  | .error e => r = -1 ∧ rf = e.1 ∧ rp = e.2
  | .ok y => r ≠ -1 ∧ fr = tkA t n y.2 ∧ L.foldl rstp (0, []) = (y.1.1, []) ∧ okF L (0, [])
def RRL (t : Nat → Int32) (n h fr0 sp0 tok0 val0 : Int) (L : List (Int × Int)) (o : Nat) (fr sp tok val : Int) : Prop := ∀ p0 : Int, TKR t n p0 fr0 sp0 tok0 val0 → ∃ (p : Int) (k : Nat), TKR t n p fr sp tok val ∧ n < fr + k ∧ (L.foldl rstp (0, [])).2.length = o ∧ okF L (0, []) ∧ rnG (endR t n) (itR t n h) k (L.foldl rstp (0, [])) p = rnG (endR t n) (itR t n h) 401 (0, []) p0
section RRs
variable {t : Nat → Int32} {n h p lo hi c op r rf rp fr sp tok val fr' sp' tok' val' fr0 sp0 tok0 val0 r1 rf1 rp1 fr1 sp1 tok1 val1 r2 rf2 rp2 fr2 sp2 tok2 val2 : Int} {L L' : List (Int × Int)} {o o' N N' : Nat} {so sh so' sh' : Nat → Int32} {w v : Int32}
theorem it_go (q : TKR t n p fr sp tok val) (h1 : tok = 2) (h2 : val = 28) : itR t n h o p = seqR t n 0 (0 : Int32).toInt h (59 : Int32).toInt sp := by
  obtain ⟨k1, k2, -, k4, -, -⟩ := TKR_kd q
  unfold itR
  rw [if_pos ⟨k1.symm.trans h1, (k4 h1).symm.trans h2⟩, k2]
theorem it_stay (q : TKR t n p fr sp tok val) (h1 : tok = 2) (h2 : val = 29) : itR t n h o p = seqR t n 1 (1 : Int32).toInt (60 : Int32).toInt (59 : Int32).toInt sp := by
  obtain ⟨k1, k2, -, k4, -, -⟩ := TKR_kd q
  have e := k4 h1
  unfold itR
  rw [if_neg (fun y => by have z := y.2; omega), if_pos ⟨k1.symm.trans h1, e.symm.trans h2⟩, k2]
theorem it_again (q : TKR t n p fr sp tok val) (h1 : tok = 2) (h2 : val = 30) (ho : o < 4) : itR t n h o p = seqR t n 2 (1 : Int32).toInt (9 : Int32).toInt (40 : Int32).toInt sp := by
  obtain ⟨k1, k2, -, k4, -, -⟩ := TKR_kd q
  have e := k4 h1
  unfold itR
  rw [if_neg (fun y => by have z := y.2; omega), if_neg (fun y => by have z := y.2; omega), if_pos ⟨k1.symm.trans h1, e.symm.trans h2⟩, if_neg (by omega), k2]
theorem it_many (q : TKR t n p fr sp tok val) (h1 : tok = 2) (h2 : val = 30) (ho : 4 ≤ o) : itR t n h o p = .error (3, fr) := by
  obtain ⟨k1, -, k3, k4, -, -⟩ := TKR_kd q
  have e := k4 h1
  unfold itR
  rw [if_neg (fun y => by have z := y.2; omega), if_neg (fun y => by have z := y.2; omega), if_pos ⟨k1.symm.trans h1, e.symm.trans h2⟩, if_pos ho, k3]
theorem it_end (q : TKR t n p fr sp tok val) (h1 : tok = 4) (h2 : val = 41) (ho : 0 < o) : itR t n h o p = .ok ((3, 0), sp) := by
  obtain ⟨k1, k2, -, -, -, k6⟩ := TKR_kd q
  unfold itR
  rw [if_neg (fun y => by have z := y.1; omega), if_neg (fun y => by have z := y.1; omega), if_neg (fun y => by have z := y.1; omega), if_pos ⟨⟨k1.symm.trans h1, (k6 h1).symm.trans h2⟩, ho⟩, k2]
theorem it_no (q : TKR t n p fr sp tok val) (h1 : ¬ (tok = 2 ∧ val = 28)) (h2 : ¬ (tok = 2 ∧ val = 29)) (h3 : ¬ (tok = 2 ∧ val = 30)) (h4 : ¬ ((tok = 4 ∧ val = 41) ∧ 0 < o)) : itR t n h o p = .error (1, fr) := by
  obtain ⟨k1, -, k3, k4, -, k6⟩ := TKR_kd q
  unfold itR
  rw [if_neg (fun y => h1 ⟨k1.trans y.1, (k4 (k1.trans y.1)).trans y.2⟩), if_neg (fun y => h2 ⟨k1.trans y.1, (k4 (k1.trans y.1)).trans y.2⟩), if_neg (fun y => h3 ⟨k1.trans y.1, (k4 (k1.trans y.1)).trans y.2⟩), if_neg (fun y => h4 ⟨⟨k1.trans y.1.1, (k6 (k1.trans y.1.1)).trans y.1.2⟩, y.2⟩), k3]
/-- a number that is bad; a mark that is bad; both good -/
theorem IR_num (q : RN t n (numR t n lo hi p) r1 rf1 rp1 fr1 sp1 tok1 val1) (hl : 0 ≤ lo) (h1 : r1 = -1) (hr : r = -1) (hf : rf = rf1) (hp : rp = rp1) {op' : Int} : IR t n (seqR t n op lo hi c p) op' L L' r rf rp fr' sp' tok' val' := by
  obtain ⟨e, e1, e2, e3⟩ := RN_err q hl h1
  unfold seqR
  rw [e1]
  exact ⟨hr, hf.trans e2, hp.trans e3⟩
theorem IR_mark (q : RN t n (numR t n lo hi p) r1 rf1 rp1 fr1 sp1 tok1 val1) (h1 : r1 ≠ -1) (q2 : ∀ p : Int, TKR t n p fr1 sp1 tok1 val1 → RX t n (markR t n c p) r2 rf2 rp2 fr2 sp2 tok2 val2) (h2 : r2 = -1) (hr : r = -1) (hf : rf = rf2) (hp : rp = rp2) {op' : Int} : IR t n (seqR t n op lo hi c p) op' L L' r rf rp fr' sp' tok' val' := by
  obtain ⟨y, e1, -, e3⟩ := RN_get q h1
  obtain ⟨e, f1, f2, f3⟩ := RX_err (q2 _ e3) h2
  unfold seqR
  rw [e1]
  show IR t n (match markR t n c y.2 with
    | .error e => .error e
    | .ok r => .ok ((op, y.1), r)) op' L L' r rf rp fr' sp' tok' val'
  rw [f1]
  exact ⟨hr, hf.trans f2, hp.trans f3⟩
theorem IR_ok (q : RN t n (numR t n lo hi p) r1 rf1 rp1 fr1 sp1 tok1 val1) (h1 : r1 ≠ -1) (q2 : ∀ p : Int, TKR t n p fr1 sp1 tok1 val1 → RX t n (markR t n c p) r2 rf2 rp2 fr2 sp2 tok2 val2) (h2 : r2 ≠ -1) (hr : r ≠ -1) (he : EM so sh so' sh' N w v) (hw : w.toInt = op) (hv : v.toInt = r1) (hN : N' = N + 1) : IR t n (seqR t n op lo hi c p) op (stpL so sh N) (stpL so' sh' N') r rf rp fr2 sp2 tok2 val2 := by
  obtain ⟨y, e1, e2, e3⟩ := RN_get q h1
  obtain ⟨p', f1, f2⟩ := RX_get (q2 _ e3) h2
  unfold seqR
  rw [e1]
  show IR t n (match markR t n c y.2 with
    | .error e => .error e
    | .ok r => .ok ((op, y.1), r)) op (stpL so sh N) (stpL so' sh' N') r rf rp fr2 sp2 tok2 val2
  rw [f1]
  refine ⟨⟨hr, f2⟩, ?_, rfl⟩
  rw [stpL_snoc he hN, hw, hv, e2]
theorem IR_end (q : TKR t n p fr sp tok val) (h1 : tok = 4) (h2 : val = 41) (ho : 0 < o) (hn : TKR t n sp fr' sp' tok' val') (hr : r ≠ -1) (he : EM so sh so' sh' N w v) (hw : w.toInt = 3) (hv : v.toInt = 0) (hN : N' = N + 1) : IR t n (itR t n h o p) 3 (stpL so sh N) (stpL so' sh' N') r rf rp fr' sp' tok' val' := by
  rw [it_end q h1 h2 ho]
  refine ⟨⟨hr, hn⟩, ?_, rfl⟩
  rw [stpL_snoc he hN, hw, hv]
theorem rstp_len {x : Int × List (Int × Int)} {s : Int × Int} (h1 : x.2.length = o) (hq : (s.1 = 0 ∧ o' = o) ∨ (s.1 = 1 ∧ o' = o) ∨ (s.1 = 2 ∧ o' = o + 1) ∨ (s.1 = 3 ∧ o = o' + 1)) : (rstp x s).2.length = o' := by
  obtain ⟨z, st⟩ := x
  obtain ⟨a, b⟩ := s
  have h1 : st.length = o := h1
  rcases hq with ⟨e, g⟩ | ⟨e, g⟩ | ⟨e, g⟩ | ⟨e, g⟩
  · have e : a = 0 := e
    subst e; rw [rstp_go, g]; exact h1
  · have e : a = 1 := e
    subst e; rw [rstp_stay, g]; exact h1
  · have e : a = 2 := e
    subst e; rw [rstp_again, g, ← h1]; rfl
  · have e : a = 3 := e
    subst e
    cases st with
    | nil =>
      have h1 : 0 = o := h1
      omega
    | cons u st =>
      obtain ⟨c, m⟩ := u
      rw [rstp_end]
      have h1 : st.length + 1 = o := h1
      show st.length = o'
      omega
theorem RRL_init (hN : N = 0) (ho : o = 0) (h4 : n ≤ 400) (hf : 0 ≤ fr0) : RRL t n h fr0 sp0 tok0 val0 (stpL so sh N) o fr0 sp0 tok0 val0 := by
  subst hN ho
  exact fun p0 q => ⟨p0, 401, q, by omega, rfl, trivial, rfl⟩
theorem rnG_one {E : Int → Bool} {I : Nat → Int → Except (Int × Int) ((Int × Int) × Int)} {k : Nat} {x : Int × List (Int × Int)} (hE : E p = false) (hk : 0 < k) : rnG E I k x p = match I x.2.length p with
    | .error e => .error e
    | .ok y => rnG E I (k - 1) (rstp x y.1) y.2 := by
  obtain ⟨j, rfl⟩ : ∃ j : Nat, k = j + 1 := ⟨k - 1, by omega⟩
  show (if E p = true then Except.ok (x, p) else match I x.2.length p with
    | .error e => .error e
    | .ok y => rnG E I j (rstp x y.1) y.2) = _
  rw [if_neg (by rw [hE]; decide)]
  rfl
theorem RRL_it (q : RRL t n h fr0 sp0 tok0 val0 L o fr sp tok val) (ht : tok ≠ 0) (hf : fr ≤ n) (hI : ∀ p : Int, TKR t n p fr sp tok val → IR t n (itR t n h o p) op L L' r rf rp fr' sp' tok' val') (hr : r ≠ -1) (hop : (op = 0 ∧ o' = o) ∨ (op = 1 ∧ o' = o) ∨ (op = 2 ∧ o' = o + 1) ∨ (op = 3 ∧ o = o' + 1)) (hg : fr + 1 ≤ fr') : RRL t n h fr0 sp0 tok0 val0 L' o' fr' sp' tok' val' := by
  intro p0 q0
  obtain ⟨p, k, a1, a2, a3, a4, a5⟩ := q p0 q0
  obtain ⟨k1, -, -, -, -, -⟩ := TKR_kd a1
  have b := hI p a1
  rw [rnG_one (show endR t n p = false from decide_eq_false (fun z => ht (k1.trans z))) (by omega), a3] at a5
  cases hy : itR t n h o p with
  | error e => rw [hy] at b; exact absurd b.1 hr
  | ok y =>
    rw [hy] at b a5
    obtain ⟨⟨-, b2⟩, b3, b4⟩ := b
    have hl : (L'.foldl rstp (0, [])) = rstp (L.foldl rstp (0, [])) y.1 := by rw [b3, List.foldl_append]; rfl
    refine ⟨y.2, k - 1, b2, by omega, ?_, ?_, ?_⟩
    · rw [hl]; exact rstp_len a3 (by rw [b4]; exact hop)
    · rw [b3]
      refine okF_snoc L _ _ a4 (fun e3 z => ?_)
      rw [z] at a3
      have a3 : 0 = o := a3
      omega
    · rw [hl]; exact a5
theorem RRL_err (q : RRL t n h fr0 sp0 tok0 val0 L o fr sp tok val) (ht : tok ≠ 0) (hf : fr ≤ n) (hI : ∀ p : Int, TKR t n p fr sp tok val → IR t n (itR t n h o p) op L L' r1 rf rp fr' sp' tok' val') (h1 : r1 = -1) (hr : r = -1) {LL : List (Int × Int)} {frr : Int} : ∀ p0 : Int, TKR t n p0 fr0 sp0 tok0 val0 → SR t n ((rnG (endR t n) (itR t n h) 401 (0, []) p0).bind (opnG t n)) LL r rf rp frr := by
  intro p0 q0
  obtain ⟨p, k, a1, a2, a3, a4, a5⟩ := q p0 q0
  obtain ⟨k1, -, -, -, -, -⟩ := TKR_kd a1
  have b := hI p a1
  rw [rnG_one (show endR t n p = false from decide_eq_false (fun z => ht (k1.trans z))) (by omega), a3] at a5
  rw [← a5]
  cases hy : itR t n h o p with
  | error e =>
    rw [hy] at b
    exact ⟨hr, b.2.1, b.2.2⟩
  | ok y => rw [hy] at b; exact absurd h1 b.1.1
theorem RRL_end (q : RRL t n h fr0 sp0 tok0 val0 L o fr sp tok val) (ht : tok = 0) (ho : o = 0) (hf : fr ≤ n) (hr : r ≠ -1) : ∀ p0 : Int, TKR t n p0 fr0 sp0 tok0 val0 → SR t n ((rnG (endR t n) (itR t n h) 401 (0, []) p0).bind (opnG t n)) L r rf rp fr := by
  intro p0 q0
  obtain ⟨p, k, a1, a2, a3, a4, a5⟩ := q p0 q0
  obtain ⟨k1, -, k3, -, -, -⟩ := TKR_kd a1
  rw [← a5]
  obtain ⟨j, rfl⟩ : ∃ j : Nat, k = j + 1 := ⟨k - 1, by omega⟩
  have e : rnG (endR t n) (itR t n h) (j + 1) (L.foldl rstp (0, [])) p = .ok (L.foldl rstp (0, []), p) := by
    show (if endR t n p = true then Except.ok (L.foldl rstp (0, []), p) else _) = _
    rw [if_pos (show endR t n p = true from decide_eq_true (k1.symm.trans ht))]
  rw [e]
  show SR t n (opnG t n (L.foldl rstp (0, []), p)) L r rf rp fr
  have e2 : opnG t n (L.foldl rstp (0, []), p) = .ok (L.foldl rstp (0, []), p) := by
    show (if 0 < (L.foldl rstp (0, [])).2.length then _ else _) = _
    rw [if_neg (by omega)]
  rw [e2]
  refine ⟨hr, k3, ?_, a4⟩
  have e3 : (L.foldl rstp (0, [])).2 = [] := List.eq_nil_of_length_eq_zero (by omega)
  exact Prod.ext rfl e3
theorem RRL_bad (q : RRL t n h fr0 sp0 tok0 val0 L o fr sp tok val) (h0 : ¬ (tok = 0 ∧ o = 0)) (h1 : ¬ (tok = 2 ∧ val = 28)) (h2 : ¬ (tok = 2 ∧ val = 29)) (h3 : ¬ (tok = 2 ∧ val = 30)) (h4 : ¬ ((tok = 4 ∧ val = 41) ∧ 0 < o)) (hf : fr ≤ n) (hr : r = -1) (hrf : rf = 1) (hrp : rp = fr) {LL : List (Int × Int)} {frr : Int} : ∀ p0 : Int, TKR t n p0 fr0 sp0 tok0 val0 → SR t n ((rnG (endR t n) (itR t n h) 401 (0, []) p0).bind (opnG t n)) LL r rf rp frr := by
  intro p0 q0
  obtain ⟨p, k, a1, a2, a3, a4, a5⟩ := q p0 q0
  obtain ⟨k1, -, k3, -, -, -⟩ := TKR_kd a1
  rw [← a5]
  by_cases ht : tok = 0
  · obtain ⟨j, rfl⟩ : ∃ j : Nat, k = j + 1 := ⟨k - 1, by omega⟩
    have e : rnG (endR t n) (itR t n h) (j + 1) (L.foldl rstp (0, [])) p = .ok (L.foldl rstp (0, []), p) := by
      show (if endR t n p = true then Except.ok (L.foldl rstp (0, []), p) else _) = _
      rw [if_pos (show endR t n p = true from decide_eq_true (k1.symm.trans ht))]
    rw [e]
    show SR t n (opnG t n (L.foldl rstp (0, []), p)) LL r rf rp frr
    have e2 : opnG t n (L.foldl rstp (0, []), p) = .error (1, tkA t n p) := by
      show (if 0 < (L.foldl rstp (0, [])).2.length then _ else _) = _
      rw [if_pos (by rw [a3]; exact Nat.pos_of_ne_zero (fun z => h0 ⟨ht, z⟩))]
    rw [e2]
    exact ⟨hr, hrf, hrp.trans k3⟩
  · rw [rnG_one (show endR t n p = false from decide_eq_false (fun z => ht (k1.trans z))) (by omega), a3, it_no a1 h1 h2 h3 h4]
    exact ⟨hr, hrf, hrp⟩
theorem RRd_err {LL : List (Int × Int)} {frr : Int} (q : ∀ p0 : Int, TKR t n p0 fr0 sp0 tok0 val0 → SR t n ((rnG (endR t n) (itR t n h) 401 (0, []) p0).bind (opnG t n)) LL r1 rf rp frr) (h1 : r1 = -1) (hr : r = -1) : ∀ p0 : Int, TKR t n p0 fr0 sp0 tok0 val0 → RC (roundR t n h p0) r rf rp := by
  intro p0 q0
  have b := q p0 q0
  unfold roundR
  cases hy : (rnG (endR t n) (itR t n h) 401 (0, []) p0).bind (opnG t n) with
  | error e => rw [hy] at b; exact ⟨hr, b.2.1, b.2.2⟩
  | ok y => rw [hy] at b; exact absurd h1 b.1
theorem RRd_lay {LL : List (Int × Int)} {frr : Int} (q : ∀ p0 : Int, TKR t n p0 fr0 sp0 tok0 val0 → SR t n ((rnG (endR t n) (itR t n h) 401 (0, []) p0).bind (opnG t n)) LL r1 rf1 rp1 frr) (h1 : r1 ≠ -1) (hl : ∀ z : Int, LL.foldl rstp (0, []) = (z, []) → okF LL (0, []) → RC (layR z frr) r rf rp) : ∀ p0 : Int, TKR t n p0 fr0 sp0 tok0 val0 → RC (roundR t n h p0) r rf rp := by
  intro p0 q0
  have b := q p0 q0
  unfold roundR
  cases hy : (rnG (endR t n) (itR t n h) 401 (0, []) p0).bind (opnG t n) with
  | error e => rw [hy] at b; exact absurd b.1 h1
  | ok y =>
    rw [hy] at b
    obtain ⟨-, b2, b3, b4⟩ := b
    show RC (layR y.1.1 (tkA t n y.2)) r rf rp
    rw [← b2]
    exact hl _ b3 b4
end RRs
theorem lay_over {so sh : Nat → Int32} {N : Nat} {m r rf rp fr : Int} (h : m ≤ (SA so sh N 0).headD 0) (hm : 200 < m) (hr : r = -1) (hf : rf = 4) (hp : rp = fr) : ∀ z : Int, (stpL so sh N).foldl rstp (0, []) = (z, []) → okF (stpL so sh N) (0, []) → RC (layR z fr) r rf rp := by
  intro z h1 h2
  rw [SA_F h1 h2] at h
  unfold layR
  rw [if_pos (by omega)]
  exact ⟨hr, hf, hp⟩
theorem lay_done {so sh : Nat → Int32} {N : Nat} {r rf rp fr : Int} (h : r = (SA so sh N 0).headD 0) (hm : r ≤ 200) (h00 : 0 ≤ r) : ∀ z : Int, (stpL so sh N).foldl rstp (0, []) = (z, []) → okF (stpL so sh N) (0, []) → RC (layR z fr) r rf rp := by
  intro z h1 h2
  rw [SA_F h1 h2] at h
  unfold layR
  rw [if_neg (by omega)]
  exact ⟨h, h00⟩
