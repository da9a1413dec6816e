/-! rounds as steps: the nights of what is laid -/
def stpL (o h : Nat → Int32) (n : Nat) : List (Int × Int) := (List.range n).map (fun k => ((o k).toInt, (h k).toInt))
theorem stpL_len {o h : Nat → Int32} {n : Nat} : (stpL o h n).length = n := by unfold stpL; rw [List.length_map, List.length_range]
theorem stpL_snoc {o h o' h' : Nat → Int32} {n m : Nat} {w v : Int32} (q : EM o h o' h' n w v) (hm : m = n + 1) : stpL o' h' m = stpL o h n ++ [(w.toInt, v.toInt)] := by
  subst hm
  unfold stpL
  rw [List.range_succ, List.map_append]
  congr 1
  · apply List.map_congr_left
    intro k hk
    have z := q.2.2 k (by have := List.mem_range.mp hk; omega)
    rw [z.1, z.2]
  · show [((o' n).toInt, (h' n).toInt)] = _
    rw [q.1, q.2.1]
theorem stpL_drop {o h : Nat → Int32} {n k : Nat} (hk : k < n) : (stpL o h n).drop k = ((o k).toInt, (h k).toInt) :: (stpL o h n).drop (k + 1) := by
  rw [List.drop_eq_getElem_cons (by rw [stpL_len]; exact hk)]
  congr 1
  unfold stpL
  rw [List.getElem_map, List.getElem_range]
def Ssum : List (Int × Int) → List Int
  | [] => [0]
  | s :: L => if s.1 = 2 then (s.2 * (Ssum L).headD 0 + (Ssum L).tail.headD 0) :: (Ssum L).tail.tail else if s.1 = 3 then 0 :: Ssum L else ((Ssum L).headD 0 + (if s.1 = 0 then 1 else s.2)) :: (Ssum L).tail
def okF : List (Int × Int) → Int × List (Int × Int) → Prop
  | [], _ => True
  | s :: L, x => (s.1 = 3 → x.2 ≠ []) ∧ okF L (rstp x s)
theorem okF_snoc : ∀ (L : List (Int × Int)) (x : Int × List (Int × Int)) (s : Int × Int), okF L x → (s.1 = 3 → (L.foldl rstp x).2 ≠ []) → okF (L ++ [s]) x
  | [], _, _, _, h => ⟨h, trivial⟩
  | _ :: L, _, s, q, h => ⟨q.1, okF_snoc L _ s q.2 h⟩
def clS : Int → List Int → List (Int × Int) → Int
  | z, _, [] => z
  | z, ys, a :: st => clS (a.1 + (z - a.1) * a.2 + ys.headD 0) ys.tail st
theorem fold_S : ∀ (L : List (Int × Int)) (x : Int × List (Int × Int)), okF L x → (L.foldl rstp x).2 = [] → (L.foldl rstp x).1 = clS (x.1 + (Ssum L).headD 0) (Ssum L).tail x.2
  | [], x, _, h => by
    have h : x.2 = [] := h
    show x.1 = clS (x.1 + 0) [] x.2
    rw [h, Int.add_zero]
    rfl
  | s :: L, x, q, h => by
    have ih := fold_S L (rstp x s) q.2 h
    show (L.foldl rstp (rstp x s)).1 = _
    rw [ih]
    obtain ⟨a, b⟩ := s
    obtain ⟨z, st⟩ := x
    show _ = clS (z + (if a = 2 then (b * (Ssum L).headD 0 + (Ssum L).tail.headD 0) :: (Ssum L).tail.tail else if a = 3 then 0 :: Ssum L else ((Ssum L).headD 0 + (if a = 0 then 1 else b)) :: (Ssum L).tail).headD 0) (if a = 2 then (b * (Ssum L).headD 0 + (Ssum L).tail.headD 0) :: (Ssum L).tail.tail else if a = 3 then 0 :: Ssum L else ((Ssum L).headD 0 + (if a = 0 then 1 else b)) :: (Ssum L).tail).tail st
    generalize Ssum L = S at ih ⊢
    by_cases h2 : a = 2
    · subst h2
      rw [if_pos rfl, rstp_again]
      show clS (z + (z + S.headD 0 - z) * b + S.tail.headD 0) S.tail.tail st = clS (z + (b * S.headD 0 + S.tail.headD 0)) S.tail.tail st
      rw [show z + S.headD 0 - z = S.headD 0 from by omega, Int.mul_comm, ← Int.add_assoc]
    · rw [if_neg h2]
      by_cases h3 : a = 3
      · subst h3
        rw [if_pos rfl]
        have q1 : st ≠ [] := q.1 rfl
        cases st with
        | nil => exact absurd rfl q1
        | cons c st =>
          obtain ⟨c, m⟩ := c
          rw [rstp_end]
          show clS (c + (z - c) * m + S.headD 0) S.tail st = clS (c + (z + 0 - c) * m + S.headD 0) S.tail st
          rw [Int.add_zero]
      · rw [if_neg h3]
        have e : rstp (z, st) (a, b) = (z + (if a = 0 then 1 else b), st) := by
          show (if a = 2 then _ else if a = 3 then _ else (z + (if a = 0 then 1 else b), st)) = _
          rw [if_neg h2, if_neg h3]
        rw [e]
        show clS (z + (if a = 0 then 1 else b) + S.headD 0) S.tail st = clS (z + (S.headD 0 + (if a = 0 then 1 else b))) S.tail st
        rw [Int.add_assoc, Int.add_comm (if a = 0 then 1 else b)]
theorem headD_nn {l : List Int} (h : ∀ y ∈ l, 0 ≤ y) : 0 ≤ l.headD 0 := by
  cases l with
  | nil => exact Int.le_refl 0
  | cons a r => exact h a (List.mem_cons_self ..)
theorem tail_nn {l : List Int} (h : ∀ y ∈ l, 0 ≤ y) : ∀ y ∈ l.tail, 0 ≤ y := by
  cases l with
  | nil => exact h
  | cons a r => exact fun y hy => h y (List.mem_cons_of_mem _ hy)
theorem cons_nn {a : Int} {l : List Int} (h0 : 0 ≤ a) (h : ∀ y ∈ l, 0 ≤ y) : ∀ y ∈ a :: l, 0 ≤ y := by
  intro y hy
  rcases List.mem_cons.mp hy with e | e
  · rw [e]; exact h0
  · exact h y e
theorem Ssum_nn : ∀ L : List (Int × Int), (∀ s ∈ L, s.1 ≠ 3 → 0 ≤ s.2) → ∀ y ∈ Ssum L, 0 ≤ y
  | [], _ => cons_nn (Int.le_refl 0) (fun y hy => absurd hy (List.not_mem_nil))
  | s :: L, h => by
    have ih := Ssum_nn L (fun x hx => h x (List.mem_cons_of_mem _ hx))
    have h1 := h s (List.mem_cons_self ..)
    show ∀ y ∈ (if s.1 = 2 then (s.2 * (Ssum L).headD 0 + (Ssum L).tail.headD 0) :: (Ssum L).tail.tail else if s.1 = 3 then 0 :: Ssum L else ((Ssum L).headD 0 + (if s.1 = 0 then 1 else s.2)) :: (Ssum L).tail), 0 ≤ y
    generalize Ssum L = S at ih ⊢
    have a1 := headD_nn ih
    have a2 := headD_nn (tail_nn ih)
    by_cases h2 : s.1 = 2
    · rw [if_pos h2]
      have a3 := Int.mul_nonneg (h1 (by omega)) a1
      exact cons_nn (by omega) (tail_nn (tail_nn ih))
    · rw [if_neg h2]
      by_cases h3 : s.1 = 3
      · rw [if_pos h3]; exact cons_nn (Int.le_refl 0) ih
      · rw [if_neg h3]
        have a3 := h1 h3
        refine cons_nn ?_ (tail_nn ih)
        by_cases h0 : s.1 = 0
        · rw [if_pos h0]; omega
        · rw [if_neg h0]; omega
/-- the nights that are still to be laid, from a step on -/
def SA (o h : Nat → Int32) (n k : Nat) : List Int := Ssum ((stpL o h n).drop k)
def rmS (S : Nat → List Int) (bt tl : Nat → Int32) : Nat → List Int → Int
  | 0, _ => 0
  | j + 1, ys => ((tl j).toInt - 1) * (S ((bt j).toInt.toNat + 1)).headD 0 + ys.headD 0 + rmS S bt tl j ys.tail
def rqS (S : Nat → List Int) (bt : Nat → Int32) : Nat → List Int → Prop
  | 0, _ => True
  | j + 1, ys => (S ((bt j).toInt.toNat + 1)).tail = ys ∧ rqS S bt j ys.tail
theorem rmS_same {S : Nat → List Int} {bt tl bt' tl' : Nat → Int32} : ∀ (d : Nat) (ys : List Int), (∀ j : Nat, j < d → bt' j = bt j ∧ tl' j = tl j) → rmS S bt' tl' d ys = rmS S bt tl d ys
  | 0, _, _ => rfl
  | d + 1, ys, h => by
    show ((tl' d).toInt - 1) * (S ((bt' d).toInt.toNat + 1)).headD 0 + ys.headD 0 + rmS S bt' tl' d ys.tail = ((tl d).toInt - 1) * (S ((bt d).toInt.toNat + 1)).headD 0 + ys.headD 0 + rmS S bt tl d ys.tail
    rw [(h d (by omega)).1, (h d (by omega)).2, rmS_same d _ (fun j hj => h j (by omega))]
theorem rqS_same {S : Nat → List Int} {bt bt' : Nat → Int32} : ∀ (d : Nat) (ys : List Int), (∀ j : Nat, j < d → bt' j = bt j) → rqS S bt d ys → rqS S bt' d ys
  | 0, _, _, _ => trivial
  | d + 1, ys, h, q => ⟨by rw [h d (by omega)]; exact q.1, rqS_same d _ (fun j hj => h j (by omega)) q.2⟩
theorem rmS_nn {S : Nat → List Int} {bt tl : Nat → Int32} (hS : ∀ k : Nat, ∀ y ∈ S k, 0 ≤ y) : ∀ (d : Nat) (ys : List Int), (∀ j : Nat, j < d → 1 ≤ (tl j).toInt) → (∀ y ∈ ys, 0 ≤ y) → 0 ≤ rmS S bt tl d ys
  | 0, _, _, _ => Int.le_refl 0
  | d + 1, ys, h, hy => by
    show 0 ≤ ((tl d).toInt - 1) * (S ((bt d).toInt.toNat + 1)).headD 0 + ys.headD 0 + rmS S bt tl d ys.tail
    have a1 := rmS_nn (bt := bt) (tl := tl) hS d ys.tail (fun j hj => h j (by omega)) (tail_nn hy)
    have a2 := headD_nn hy
    have a3 := Int.mul_nonneg (show 0 ≤ (tl d).toInt - 1 from by have := h d (by omega); omega) (headD_nn (hS ((bt d).toInt.toNat + 1)))
    omega
def LY (S : Nat → List Int) (n d k : Int) (bt tl : Nat → Int32) : Prop := n + (S k.toNat).headD 0 + rmS S bt tl d.toNat (S k.toNat).tail = (S 0).headD 0 ∧ rqS S bt d.toNat (S k.toNat).tail
theorem LY_nil {S : Nat → List Int} {n d k : Int} {bt tl : Nat → Int32} (hn : n = 0) (hd : d = 0) (hk : k = 0) : LY S n d k bt tl := by
  subst hn hd hk
  refine ⟨?_, trivial⟩
  show 0 + (S 0).headD 0 + 0 = _
  omega
section LYs
variable {o h : Nat → Int32} {N : Nat} {n d k n' d' k' many : Int} {bt tl bt' tl' : Nat → Int32} {i1 i2 kv hv x v y : Int32}
theorem SA_at (hk : k.toNat < N) : SA o h N k.toNat = (if (o k.toNat).toInt = 2 then ((h k.toNat).toInt * (SA o h N (k.toNat + 1)).headD 0 + (SA o h N (k.toNat + 1)).tail.headD 0) :: (SA o h N (k.toNat + 1)).tail.tail else if (o k.toNat).toInt = 3 then 0 :: SA o h N (k.toNat + 1) else ((SA o h N (k.toNat + 1)).headD 0 + (if (o k.toNat).toInt = 0 then 1 else (h k.toNat).toInt)) :: (SA o h N (k.toNat + 1)).tail) := by
  unfold SA
  rw [stpL_drop hk]
  rfl
theorem LY_fwd (q : LY (SA o h N) n d k bt tl) (hk : k.toNat < N) (h2 : (o k.toNat).toInt ≠ 2) (h3 : (o k.toNat).toInt ≠ 3) (hm : many = if (o k.toNat).toInt = 0 then 1 else (h k.toNat).toInt) (hn : n' = n + many) (h0 : 0 ≤ k) (hk' : k' = k + 1) : LY (SA o h N) n' d k' bt tl := by
  subst hk' hn hm
  unfold LY at q ⊢
  rw [SA_at hk, if_neg h2, if_neg h3] at q
  rw [show (k + 1).toNat = k.toNat + 1 from by omega]
  obtain ⟨q1, q2⟩ := q
  refine ⟨?_, q2⟩
  have q1 : n + ((SA o h N (k.toNat + 1)).headD 0 + (if (o k.toNat).toInt = 0 then 1 else (h k.toNat).toInt)) + rmS (SA o h N) bt tl d.toNat (SA o h N (k.toNat + 1)).tail = (SA o h N 0).headD 0 := q1
  omega
theorem LY_over (q : LY (SA o h N) n d k bt tl) (hk : k.toNat < N) (h2 : (o k.toNat).toInt ≠ 2) (h3 : (o k.toNat).toInt ≠ 3) (hm : many = if (o k.toNat).toInt = 0 then 1 else (h k.toNat).toInt) (hS : ∀ j : Nat, ∀ y ∈ SA o h N j, 0 ≤ y) (ht : ∀ j : Nat, (j : Int) < d → 1 ≤ (tl j).toInt) : n + many ≤ (SA o h N 0).headD 0 := by
  subst hm
  unfold LY at q
  rw [SA_at hk, if_neg h2, if_neg h3] at q
  have q1 : n + ((SA o h N (k.toNat + 1)).headD 0 + (if (o k.toNat).toInt = 0 then 1 else (h k.toNat).toInt)) + rmS (SA o h N) bt tl d.toNat (SA o h N (k.toNat + 1)).tail = (SA o h N 0).headD 0 := q.1
  have a1 := headD_nn (hS (k.toNat + 1))
  have a2 := rmS_nn (bt := bt) (tl := tl) hS d.toNat (SA o h N (k.toNat + 1)).tail (fun j hj => ht j (by omega)) (tail_nn (hS _))
  omega
theorem LY_again (q : LY (SA o h N) n d k bt tl) (hk : k.toNat < N) (h2 : (o k.toNat).toInt = 2) (e1 : bt' = upd bt i1.toNatClampNeg kv) (e2 : tl' = upd tl i2.toNatClampNeg hv) (hi1 : i1.toInt = d) (hi2 : i2.toInt = d) (hkv : kv.toInt = k) (hh : hv.toInt = (h k.toNat).toInt) (h0 : 0 ≤ k) (hd0 : 0 ≤ d) (hd : d' = d + 1) (hk' : k' = k + 1) : LY (SA o h N) n d' k' bt' tl' := by
  subst hk' hd
  have s1 : bt' d.toNat = kv := us1 e1 (by omega) (by omega)
  have s2 : tl' d.toNat = hv := us1 e2 (by omega) (by omega)
  have u : ∀ j : Nat, j < d.toNat → bt' j = bt j ∧ tl' j = tl j := fun j hj => ⟨un1 e1 (by omega) (by omega), un1 e2 (by omega) (by omega)⟩
  unfold LY at q ⊢
  rw [SA_at hk, if_pos h2] at q
  obtain ⟨q1, q2⟩ := q
  have q1 : n + ((h k.toNat).toInt * (SA o h N (k.toNat + 1)).headD 0 + (SA o h N (k.toNat + 1)).tail.headD 0) + rmS (SA o h N) bt tl d.toNat (SA o h N (k.toNat + 1)).tail.tail = (SA o h N 0).headD 0 := q1
  have q2 : rqS (SA o h N) bt d.toNat (SA o h N (k.toNat + 1)).tail.tail := q2
  rw [show (k + 1).toNat = k.toNat + 1 from by omega, show (d + 1).toNat = d.toNat + 1 from by omega]
  constructor
  · show n + (SA o h N (k.toNat + 1)).headD 0 + (((tl' d.toNat).toInt - 1) * (SA o h N ((bt' d.toNat).toInt.toNat + 1)).headD 0 + (SA o h N (k.toNat + 1)).tail.headD 0 + rmS (SA o h N) bt' tl' d.toNat (SA o h N (k.toNat + 1)).tail.tail) = _
    rw [s1, s2, hkv, hh, rmS_same d.toNat _ u, Int.sub_mul]
    omega
  · refine ⟨?_, rqS_same d.toNat _ (fun j hj => (u j hj).1) q2⟩
    rw [s1, hkv]
theorem LY_jump (q : LY (SA o h N) n d k bt tl) (hk : k.toNat < N) (h3 : (o k.toNat).toInt = 3) (hd : 1 ≤ d) (e1 : tl' = upd tl i1.toNatClampNeg x) (hi1 : i1.toInt = d - 1) (hx : x.toInt = (tl (d - 1).toNat).toInt - 1) (hv : v.toInt = (bt (d - 1).toNat).toInt) (hv0 : 0 ≤ v.toInt) (hk' : k' = v.toInt + 1) : LY (SA o h N) n d k' bt tl' := by
  subst hk'
  have s2 : tl' (d - 1).toNat = x := us1 e1 (by omega) (by omega)
  have u : ∀ j : Nat, j < (d - 1).toNat → bt j = bt j ∧ tl' j = tl j := fun j hj => ⟨rfl, un1 e1 (by omega) (by omega)⟩
  unfold LY at q ⊢
  rw [SA_at hk, if_neg (by omega), if_pos h3, show d.toNat = (d - 1).toNat + 1 from by omega] at q
  rw [show d.toNat = (d - 1).toNat + 1 from by omega]
  obtain ⟨q1, q2, q3⟩ := q
  have q1 : n + 0 + (((tl (d - 1).toNat).toInt - 1) * (SA o h N ((bt (d - 1).toNat).toInt.toNat + 1)).headD 0 + (SA o h N (k.toNat + 1)).headD 0 + rmS (SA o h N) bt tl (d - 1).toNat (SA o h N (k.toNat + 1)).tail) = (SA o h N 0).headD 0 := q1
  have q2 : (SA o h N ((bt (d - 1).toNat).toInt.toNat + 1)).tail = SA o h N (k.toNat + 1) := q2
  have q3 : rqS (SA o h N) bt (d - 1).toNat (SA o h N (k.toNat + 1)).tail := q3
  rw [show (v.toInt + 1).toNat = (bt (d - 1).toNat).toInt.toNat + 1 from by omega, q2]
  constructor
  · show n + (SA o h N ((bt (d - 1).toNat).toInt.toNat + 1)).headD 0 + (((tl' (d - 1).toNat).toInt - 1) * (SA o h N ((bt (d - 1).toNat).toInt.toNat + 1)).headD 0 + (SA o h N (k.toNat + 1)).headD 0 + rmS (SA o h N) bt tl' (d - 1).toNat (SA o h N (k.toNat + 1)).tail) = _
    rw [s2, hx, rmS_same (d - 1).toNat _ u]
    generalize (SA o h N ((bt (d - 1).toNat).toInt.toNat + 1)).headD 0 = X at q1 ⊢
    rw [Int.sub_mul] at q1
    rw [Int.sub_mul, Int.sub_mul]
    omega
  · exact ⟨q2, q3⟩
theorem LY_end (q : LY (SA o h N) n d k bt tl) (hk : k.toNat < N) (h3 : (o k.toNat).toInt = 3) (hd : 1 ≤ d) (e1 : tl' = upd tl i1.toNatClampNeg x) (hi1 : i1.toInt = d - 1) (hx : (tl (d - 1).toNat).toInt = 1) (h0 : 0 ≤ k) (hd' : d' = d - 1) (hk' : k' = k + 1) : LY (SA o h N) n d' k' bt tl' := by
  subst hk' hd'
  have u : ∀ j : Nat, j < (d - 1).toNat → bt j = bt j ∧ tl' j = tl j := fun j hj => ⟨rfl, un1 e1 (by omega) (by omega)⟩
  unfold LY at q ⊢
  rw [SA_at hk, if_neg (by omega), if_pos h3, show d.toNat = (d - 1).toNat + 1 from by omega] at q
  obtain ⟨q1, q2, q3⟩ := q
  have q1 : n + 0 + (((tl (d - 1).toNat).toInt - 1) * (SA o h N ((bt (d - 1).toNat).toInt.toNat + 1)).headD 0 + (SA o h N (k.toNat + 1)).headD 0 + rmS (SA o h N) bt tl (d - 1).toNat (SA o h N (k.toNat + 1)).tail) = (SA o h N 0).headD 0 := q1
  have q3 : rqS (SA o h N) bt (d - 1).toNat (SA o h N (k.toNat + 1)).tail := q3
  rw [show (k + 1).toNat = k.toNat + 1 from by omega]
  refine ⟨?_, q3⟩
  rw [rmS_same (d - 1).toNat _ u]
  rw [hx, show (1 : Int) - 1 = 0 from rfl, Int.zero_mul] at q1
  omega
theorem LY_out (q : LY (SA o h N) n d k bt tl) (hk : N ≤ k.toNat) (hd : d = 0) : n = (SA o h N 0).headD 0 := by
  subst hd
  have q1 := q.1
  have e : SA o h N k.toNat = [0] := by
    unfold SA
    rw [List.drop_eq_nil_of_le (by rw [stpL_len]; exact hk)]
    rfl
  rw [e] at q1
  have q1 : n + 0 + 0 = (SA o h N 0).headD 0 := q1
  omega
theorem SA_nn {hs : Int} {dd : Nat → Nat} (hq : ∀ j : Nat, j < N → SP o h hs j (dd j) (dd (j + 1))) : ∀ j : Nat, ∀ y ∈ SA o h N j, 0 ≤ y := by
  intro j
  apply Ssum_nn
  intro s hs0 h3
  have m := List.mem_of_mem_drop hs0
  unfold stpL at m
  obtain ⟨i, hi, rfl⟩ := List.mem_map.mp m
  have z := hq i (List.mem_range.mp hi)
  show 0 ≤ (h i).toInt
  rcases z with z | z | z | z
  · exact z.2.1.1
  · have := z.2.1.1; omega
  · have := z.2.1.1; omega
  · exact absurd (show (o i).toInt = 3 from by rw [z.1]; decide +kernel) h3
theorem SA_F {z : Int} (hf : (stpL o h N).foldl rstp (0, []) = (z, [])) (hok : okF (stpL o h N) (0, [])) : (SA o h N 0).headD 0 = z := by
  have q := fold_S _ _ hok (by rw [hf])
  rw [hf] at q
  show (Ssum ((stpL o h N).drop 0)).headD 0 = z
  rw [List.drop_zero]
  have q : z = 0 + (Ssum (stpL o h N)).headD 0 := q
  omega
end LYs
def layR (z fr : Int) : Except (Int × Int) Int := if 200 < z then .error (4, fr) else .ok z
