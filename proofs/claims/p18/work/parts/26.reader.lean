/-! the reader: what waits, and the codes of a law -/
def wOp (p : Nat → Int32) (n : Nat) : Nat := if p n = 9 ∨ p n = 12 then 1 else 0
def wBr (p : Nat → Int32) (n : Nat) : Nat := if p n = 12 then 1 else 0
def cO (p : Nat → Int32) : Nat → Nat
  | 0 => 0
  | n + 1 => cO p n + wOp p n
def cB (p : Nat → Int32) : Nat → Nat
  | 0 => 0
  | n + 1 => cB p n + wBr p n
theorem wOp_1 {p : Nat → Int32} {n : Nat} (h : p n = 9 ∨ p n = 12) : wOp p n = 1 := if_pos h
theorem wOp_0 {p : Nat → Int32} {n : Nat} (h : ¬ (p n = 9 ∨ p n = 12)) : wOp p n = 0 := if_neg h
theorem wOp_le (p : Nat → Int32) (n : Nat) : wOp p n ≤ 1 := by
  unfold wOp; split <;> omega
theorem wBr_le (p : Nat → Int32) (n : Nat) : wBr p n ≤ wOp p n := by
  unfold wBr wOp
  by_cases h : p n = 12
  · rw [if_pos h, if_pos (Or.inr h)]; omega
  · rw [if_neg h]; omega
theorem cO_s (p : Nat → Int32) (n : Nat) : cO p (n + 1) = cO p n + wOp p n := rfl
theorem cB_s (p : Nat → Int32) (n : Nat) : cB p (n + 1) = cB p n + wBr p n := rfl
theorem cO_le (p : Nat → Int32) : ∀ n : Nat, cO p n ≤ n
  | 0 => Nat.le_refl _
  | n + 1 => by rw [cO_s]; have := cO_le p n; have := wOp_le p n; omega
theorem cB_le (p : Nat → Int32) : ∀ n : Nat, cB p n ≤ cO p n
  | 0 => Nat.le_refl _
  | n + 1 => by rw [cO_s, cB_s]; have := cB_le p n; have := wBr_le p n; omega
theorem cO_same {p q : Nat → Int32} : ∀ n : Nat, (∀ i : Nat, i < n → q i = p i) → cO q n = cO p n
  | 0, _ => rfl
  | n + 1, h => by rw [cO_s, cO_s, cO_same n (fun i hi => h i (by omega)), wOp, wOp, h n (by omega)]
theorem cB_same {p q : Nat → Int32} : ∀ n : Nat, (∀ i : Nat, i < n → q i = p i) → cB q n = cB p n
  | 0, _ => rfl
  | n + 1, h => by rw [cB_s, cB_s, cB_same n (fun i hi => h i (by omega)), wBr, wBr, h n (by omega)]
def PV (p : Nat → Int32) (n : Nat) : Prop := ∀ i : Nat, i < n → p i = 9 ∨ p i = 12 ∨ (p i = 10 ∧ (i = 0 ∨ (¬ p (i - 1) = 10 ∧ ¬ p (i - 1) = 9))) ∨ (p i = 11 ∧ (i = 0 ∨ (¬ p (i - 1) = 10 ∧ ¬ p (i - 1) = 11 ∧ ¬ p (i - 1) = 9)))
theorem PV_nil {p : Nat → Int32} : PV p 0 := fun i hi => absurd hi (by omega)
theorem PV_less {p : Nat → Int32} {n k : Nat} (h : PV p n) (hk : k ≤ n) : PV p k := fun i hi => h i (by omega)
theorem PV_same {p q : Nat → Int32} {n : Nat} (h : PV p n) (e : ∀ i : Nat, i < n → q i = p i) : PV q n := by
  intro i hi
  have z := h i hi
  rw [e i hi]
  by_cases h0 : i = 0
  · subst h0
    rcases z with z | z | z | z
    · exact Or.inl z
    · exact Or.inr (Or.inl z)
    · exact Or.inr (Or.inr (Or.inl ⟨z.1, Or.inl rfl⟩))
    · exact Or.inr (Or.inr (Or.inr ⟨z.1, Or.inl rfl⟩))
  · rw [e (i - 1) (by omega)]; exact z
def topW (p : Nat → Int32) (n : Nat) : Nat := if n = 0 then 0 else if p (n - 1) = 10 then 2 else if p (n - 1) = 11 then 1 else 0
theorem topW_le (p : Nat → Int32) (n : Nat) : topW p n ≤ 2 := by
  unfold topW; repeat (first | omega | split)
theorem PV_le {p : Nat → Int32} : ∀ n : Nat, PV p n → n ≤ 3 * cO p n + topW p n
  | 0, _ => Nat.zero_le _
  | n + 1, h => by
    have q := PV_le n (PV_less h (by omega))
    have t := topW_le p n
    rw [cO_s]
    rcases h n (by omega) with z | z | ⟨z, z1⟩ | ⟨z, z1⟩
    · rw [wOp_1 (Or.inl z)]; omega
    · rw [wOp_1 (Or.inr z)]; omega
    · have e : topW p (n + 1) = 2 := by
        unfold topW; rw [if_neg (by omega), if_pos (by simpa using z)]
      have e1 : topW p n ≤ 1 := by
        unfold topW
        rcases z1 with z1 | z1
        · rw [if_pos z1]; omega
        · split
          · omega
          · rw [if_neg z1.1]; split <;> omega
      omega
    · have e : topW p (n + 1) = 1 := by
        unfold topW; rw [if_neg (by omega), if_neg (by rw [Nat.add_sub_cancel, z]; decide), if_pos (by simpa using z)]
      have e1 : topW p n = 0 := by
        unfold topW
        rcases z1 with z1 | z1
        · rw [if_pos z1]
        · split
          · rfl
          · rw [if_neg z1.1, if_neg z1.2.1]
      omega
def ST (o a : Nat → Int32) (b : Nat) (k t u : Nat) : Prop :=
  (o k = 0 ∧ u = t + 1) ∨ (o k = 1 ∧ (0 ≤ (a k).toInt ∧ (a k).toInt ≤ 9) ∧ u = t + 1) ∨ (o k = 9 ∧ 1 ≤ t ∧ u = t) ∨ (o k = 5 ∧ b < k ∧ o (k - 1) = 0 ∧ ¬ a (k - 1) = 0 ∧ 2 ≤ t ∧ u + 1 = t) ∨ (¬ o k = 0 ∧ ¬ o k = 1 ∧ ¬ o k = 9 ∧ ¬ o k = 5 ∧ 2 ≤ t ∧ u + 1 = t)
def DP (o a : Nat → Int32) (b n t : Nat) : Prop := b ≤ n ∧ ∃ d : Nat → Nat, d b = 0 ∧ d n = t ∧ ∀ k : Nat, b ≤ k → k < n → ST o a b k (d k) (d (k + 1))
theorem DP_nil {o a : Nat → Int32} {b : Nat} : DP o a b b 0 := ⟨Nat.le_refl _, fun _ => 0, rfl, rfl, fun k h1 h2 => absurd h2 (by omega)⟩
theorem ST_same {o a o' a' : Nat → Int32} {b k t u : Nat} (h : ST o a b k t u) (hb : b ≤ k) (e : ∀ i : Nat, b ≤ i → i ≤ k → o' i = o i ∧ a' i = a i) : ST o' a' b k t u := by
  unfold ST at h ⊢
  rw [(e k hb (Nat.le_refl _)).1, (e k hb (Nat.le_refl _)).2]
  rcases h with h | h | h | h | h
  · exact Or.inl h
  · exact Or.inr (Or.inl h)
  · exact Or.inr (Or.inr (Or.inl h))
  · refine Or.inr (Or.inr (Or.inr (Or.inl ⟨h.1, h.2.1, ?_⟩)))
    rw [(e (k - 1) (by omega) (by omega)).1, (e (k - 1) (by omega) (by omega)).2]
    exact h.2.2
  · exact Or.inr (Or.inr (Or.inr (Or.inr h)))
theorem DP_same {o a o' a' : Nat → Int32} {b n t : Nat} (h : DP o a b n t) (e : ∀ i : Nat, b ≤ i → i < n → o' i = o i ∧ a' i = a i) : DP o' a' b n t := by
  obtain ⟨h0, d, h1, h2, h3⟩ := h
  exact ⟨h0, d, h1, h2, fun k hk hn => ST_same (h3 k hk hn) hk (fun i hi hj => e i hi (by omega))⟩
theorem DP_snoc {o a : Nat → Int32} {b n t u : Nat} (h : DP o a b n t) (hs : ST o a b n t u) : DP o a b (n + 1) u := by
  obtain ⟨h0, d, h1, h2, h3⟩ := h
  refine ⟨by omega, fun k => if k = n + 1 then u else d k, ?_, ?_, ?_⟩
  · show (if b = n + 1 then u else d b) = 0
    rw [if_neg (by omega)]; exact h1
  · show (if n + 1 = n + 1 then u else _) = u
    rw [if_pos rfl]
  · intro k hk hn
    show ST o a b k (if k = n + 1 then u else d k) (if k + 1 = n + 1 then u else d (k + 1))
    rw [if_neg (by omega)]
    by_cases e : k = n
    · subst e; rw [if_pos rfl, h2]; exact hs
    · rw [if_neg (by omega)]; exact h3 k hk (by omega)
theorem DP_move {o a o' a' : Nat → Int32} {b n c t : Nat} (h : DP o a b n t) (e : ∀ i : Nat, b ≤ i → i < n → o' (c + (i - b)) = o i ∧ a' (c + (i - b)) = a i) : DP o' a' c (c + (n - b)) t := by
  obtain ⟨h0, d, h1, h2, h3⟩ := h
  refine ⟨by omega, fun k => d (b + (k - c)), ?_, ?_, ?_⟩
  · show d (b + (c - c)) = 0
    rw [Nat.sub_self]; exact h1
  · show d (b + (c + (n - b) - c)) = t
    rw [show b + (c + (n - b) - c) = n from by omega]; exact h2
  · intro k hk hn
    show ST o' a' c k (d (b + (k - c))) (d (b + (k + 1 - c)))
    have z := h3 (b + (k - c)) (by omega) (by omega)
    have e0 := e (b + (k - c)) (by omega) (by omega)
    rw [show c + (b + (k - c) - b) = k from by omega] at e0
    rw [show b + (k + 1 - c) = b + (k - c) + 1 from by omega]
    unfold ST at z ⊢
    rw [e0.1, e0.2]
    rcases z with z | z | z | z | z
    · exact Or.inl z
    · exact Or.inr (Or.inl z)
    · exact Or.inr (Or.inr (Or.inl z))
    · have e1 := e (b + (k - c) - 1) (by omega) (by omega)
      rw [show c + (b + (k - c) - 1 - b) = k - 1 from by omega] at e1
      refine Or.inr (Or.inr (Or.inr (Or.inl ⟨z.1, by omega, ?_⟩)))
      rw [e1.1, e1.2]
      exact z.2.2
    · exact Or.inr (Or.inr (Or.inr (Or.inr z)))
def EM (o a o' a' : Nat → Int32) (n : Nat) (w v : Int32) : Prop := o' n = w ∧ a' n = v ∧ ∀ i : Nat, ¬ i = n → o' i = o i ∧ a' i = a i
theorem EM_of {o a o' a' : Nat → Int32} {n : Nat} {d e w v : Int32} (ho : o' = upd o d.toNatClampNeg w) (ha : a' = upd a e.toNatClampNeg v) (hd : d.toInt = n) (he : e.toInt = n) : EM o a o' a' n w v := by
  have e1 := idxI (x := d) (by omega)
  have e2 := idxI (x := e) (by omega)
  have e3 : d.toNatClampNeg = n := by omega
  have e4 : e.toNatClampNeg = n := by omega
  rw [e3] at ho
  rw [e4] at ha
  refine ⟨by rw [ho, pk_us], by rw [ha, pk_us], fun i hi => ?_⟩
  rw [ho, ha, pk_un hi, pk_un hi]
  exact ⟨rfl, rfl⟩
def TX (o a : Nat → Int32) (n : Nat) (o' a' : Nat → Int32) (n' : Nat) : Prop := n ≤ n' ∧ (∀ i : Nat, i < n → o' i = o i ∧ a' i = a i) ∧ ∀ b t : Nat, DP o a b n t → DP o' a' b n' (t + 1)
theorem TX_num {o a o' a' : Nat → Int32} {n m : Nat} {w v : Int32} (h : EM o a o' a' n w v) (hw : w = 0 ∨ (w = 1 ∧ 0 ≤ v.toInt ∧ v.toInt ≤ 9)) (hm : m = n + 1) : TX o a n o' a' m := by
  subst hm
  refine ⟨by omega, fun i hi => h.2.2 i (by omega), fun b t hd => ?_⟩
  refine DP_snoc (DP_same hd (fun i _ hi => h.2.2 i (by omega))) ?_
  rcases hw with hw | hw
  · exact Or.inl ⟨h.1.trans hw, rfl⟩
  · exact Or.inr (Or.inl ⟨h.1.trans hw.1, by rw [h.2.1]; exact hw.2, rfl⟩)
theorem TX_two {o a o1 a1 o2 a2 o3 a3 : Nat → Int32} {n n1 n2 m : Nat} {w v : Int32} (h1 : TX o a n o1 a1 n1) (h2 : TX o1 a1 n1 o2 a2 n2) (h3 : EM o2 a2 o3 a3 n2 w v) (hw : ¬ w = 0 ∧ ¬ w = 1 ∧ ¬ w = 9 ∧ (w = 5 → n1 < n2 ∧ o2 (n2 - 1) = 0 ∧ ¬ a2 (n2 - 1) = 0)) (hm : m = n2 + 1) : TX o a n o3 a3 m := by
  subst hm
  refine ⟨by have := h1.1; have := h2.1; omega, fun i hi => ?_, fun b t hd => ?_⟩
  · have e1 := h1.2.1 i hi
    have e2 := h2.2.1 i (by have := h1.1; omega)
    have e3 := h3.2.2 i (by have := h1.1; have := h2.1; omega)
    exact ⟨e3.1.trans (e2.1.trans e1.1), e3.2.trans (e2.2.trans e1.2)⟩
  · have q := h2.2.2 b _ (h1.2.2 b t hd)
    have q1 := DP_same q (o' := o3) (a' := a3) (fun i _ hi => h3.2.2 i (by omega))
    refine DP_snoc q1 ?_
    by_cases e : w = 5
    · have z := hw.2.2.2 e
      have hb : b ≤ n1 := (h1.2.2 b t hd).1
      have e0 := h3.2.2 (n2 - 1) (by omega)
      exact Or.inr (Or.inr (Or.inr (Or.inl ⟨h3.1.trans e, by omega, e0.1.trans z.2.1, by rw [e0.2]; exact z.2.2, by omega, by omega⟩)))
    · exact Or.inr (Or.inr (Or.inr (Or.inr ⟨by rw [h3.1]; exact hw.1, by rw [h3.1]; exact hw.2.1, by rw [h3.1]; exact hw.2.2.1, by rw [h3.1]; exact e, by omega, by omega⟩)))
def SE (w : Int32) (p : Nat → Int32) (n : Nat) (o a : Nat → Int32) (k n' : Nat) (o' a' : Nat → Int32) (k' : Nat) : Prop := n' ≤ n ∧ k' = k + (n - n') ∧ (∀ j : Nat, n' ≤ j → j < n → p j = w) ∧ (∀ i : Nat, i < k → o' i = o i ∧ a' i = a i) ∧ ∀ i : Nat, k ≤ i → i < k' → o' i = w
theorem SE_nil {w : Int32} {p : Nat → Int32} {n : Nat} {o a : Nat → Int32} {k : Nat} : SE w p n o a k n o a k := ⟨Nat.le_refl _, by omega, fun j h1 h2 => absurd h2 (by omega), fun _ _ => ⟨rfl, rfl⟩, fun i h1 h2 => absurd h2 (by omega)⟩
theorem SE_step {w : Int32} {p : Nat → Int32} {n : Nat} {o a : Nat → Int32} {k n1 : Nat} {o1 a1 : Nat → Int32} {k1 n2 k2 : Nat} {o2 a2 : Nat → Int32} {v : Int32} (h : SE w p n o a k n1 o1 a1 k1) (hp : p n2 = w) (hn : n2 + 1 = n1) (hm : EM o1 a1 o2 a2 k1 w v) (hk : k2 = k1 + 1) : SE w p n o a k n2 o2 a2 k2 := by
  obtain ⟨a1, a2, a3, a4, a5⟩ := h
  refine ⟨by omega, by omega, fun j h1 h2 => ?_, fun i hi => ?_, fun i h1 h2 => ?_⟩
  · by_cases e : j = n2
    · rw [e]; exact hp
    · exact a3 j (by omega) h2
  · have e1 := a4 i hi
    have e2 := hm.2.2 i (by omega)
    exact ⟨e2.1.trans e1.1, e2.2.trans e1.2⟩
  · by_cases e : i = k1
    · rw [e]; exact hm.1
    · rw [(hm.2.2 i e).1]; exact a5 i h1 (by omega)
theorem DP_nots {o a : Nat → Int32} {b t : Nat} (ht : 1 ≤ t) : ∀ (m n : Nat), DP o a b n t → (∀ i : Nat, n ≤ i → i < n + m → o i = 9) → DP o a b (n + m) t
  | 0, n, h, _ => h
  | m + 1, n, h, e => DP_snoc (DP_nots ht m n h (fun i h1 h2 => e i h1 (by omega))) (Or.inr (Or.inr (Or.inl ⟨e (n + m) (by omega) (by omega), ht, rfl⟩)))
theorem DP_twos {o a : Nat → Int32} {b t : Nat} {w : Int32} (hw : ¬ w = 0 ∧ ¬ w = 1 ∧ ¬ w = 9 ∧ ¬ w = 5) (ht : 1 ≤ t) : ∀ (m n : Nat), DP o a b n (t + m) → (∀ i : Nat, n ≤ i → i < n + m → o i = w) → DP o a b (n + m) t
  | 0, n, h, _ => h
  | m + 1, n, h, e => by
    have e0 := e n (Nat.le_refl _) (by omega)
    have q : DP o a b (n + 1) (t + m) := DP_snoc h (Or.inr (Or.inr (Or.inr (Or.inr ⟨by rw [e0]; exact hw.1, by rw [e0]; exact hw.2.1, by rw [e0]; exact hw.2.2.1, by rw [e0]; exact hw.2.2.2, by omega, by omega⟩))))
    have q2 := DP_twos hw ht m (n + 1) q (fun i h1 h2 => e i (by omega) (by omega))
    rwa [show n + 1 + m = n + (m + 1) from by omega] at q2
theorem cO_pop {p : Nat → Int32} {w : Int32} {n' : Nat} : ∀ m : Nat, (∀ j : Nat, n' ≤ j → j < n' + m → p j = w) → (w = 9 → cO p (n' + m) = cO p n' + m) ∧ (¬ w = 9 → ¬ w = 12 → cO p (n' + m) = cO p n')
  | 0, _ => ⟨fun _ => rfl, fun _ _ => rfl⟩
  | m + 1, h => by
    have q := cO_pop (p := p) (w := w) (n' := n') m (fun j h1 h2 => h j h1 (by omega))
    have e := h (n' + m) (by omega) (by omega)
    refine ⟨fun hw => ?_, fun h9 h12 => ?_⟩
    · rw [show n' + (m + 1) = n' + m + 1 from rfl, cO_s, q.1 hw, wOp_1 (Or.inl (e.trans hw))]; omega
    · rw [show n' + (m + 1) = n' + m + 1 from rfl, cO_s, q.2 h9 h12, wOp_0 (by rw [e]; exact fun z => z.elim h9 h12)]; rfl
theorem cB_pop {p : Nat → Int32} {w : Int32} (h12 : ¬ w = 12) {n' : Nat} : ∀ m : Nat, (∀ j : Nat, n' ≤ j → j < n' + m → p j = w) → cB p (n' + m) = cB p n'
  | 0, _ => rfl
  | m + 1, h => by
    have q := cB_pop h12 (p := p) (n' := n') m (fun j h1 h2 => h j h1 (by omega))
    have e := h (n' + m) (by omega) (by omega)
    rw [show n' + (m + 1) = n' + m + 1 from rfl, cB_s, q, wBr, e, if_neg h12]; rfl
def RA (o0 a0 : Nat → Int32) (n0 : Nat) (o a : Nat → Int32) (n : Nat) (p : Nat → Int32) (pn : Nat) (opn br : Int) (u : Nat) : Prop :=
  PV p pn ∧ (cO p pn : Int) ≤ opn ∧ br = (cB p pn : Int) ∧ n0 ≤ n ∧ (∀ i : Nat, i < n0 → o i = o0 i ∧ a i = a0 i) ∧ ∀ b t : Nat, DP o0 a0 b n0 t → DP o a b n (t + (pn - cO p pn) + u)
theorem RA_nil {o a : Nat → Int32} {n : Nat} {p : Nat → Int32} {opn : Int} (h : 0 ≤ opn) : RA o a n o a n p 0 opn 0 0 := ⟨PV_nil, h, rfl, Nat.le_refl _, fun _ _ => ⟨rfl, rfl⟩, fun _ _ h => h⟩
theorem RA_pend {o0 a0 : Nat → Int32} {n0 : Nat} {o a : Nat → Int32} {n : Nat} {p : Nat → Int32} {pn : Nat} {opn br : Int} {u : Nat} (h : RA o0 a0 n0 o a n p pn opn br u) (h8 : opn ≤ 8) : (pn : Int) ≤ 26 := by
  have := PV_le pn h.1
  have := topW_le p pn
  have := h.2.1
  omega
theorem RA_open {o0 a0 : Nat → Int32} {n0 : Nat} {o a : Nat → Int32} {n : Nat} {p q : Nat → Int32} {pn : Nat} {opn br : Int} {w : Int32} (h : RA o0 a0 n0 o a n p pn opn br 0) (hq : q pn = w) (hqq : ∀ i : Nat, i < pn → q i = p i) {opn' br' : Int} (ho : opn' = opn + 1) (hw : (w = 9 ∧ br' = br) ∨ (w = 12 ∧ br' = br + 1)) : RA o0 a0 n0 o a n q (pn + 1) opn' br' 0 := by
  obtain ⟨h1, h2, h3, h4, h5, h6⟩ := h
  have e1 := cO_same pn hqq
  have e2 := cB_same pn hqq
  have hw1 : q pn = 9 ∨ q pn = 12 := hw.elim (fun z => Or.inl (hq.trans z.1)) (fun z => Or.inr (hq.trans z.1))
  have l1 : cO q (pn + 1) = cO p pn + 1 := by rw [cO_s, e1, wOp_1 hw1]
  have l2 : br' = (cB q (pn + 1) : Int) := by
    rw [cB_s, e2, wBr]
    rcases hw with ⟨z, z1⟩ | ⟨z, z1⟩
    · rw [hq, z, if_neg (by decide)]; omega
    · rw [hq, z, if_pos rfl]; omega
  refine ⟨fun i hi => ?_, by omega, l2, h4, h5, fun b t hd => ?_⟩
  · by_cases e : i = pn
    · rw [e]; exact hw1.elim Or.inl (fun z => Or.inr (Or.inl z))
    · exact PV_same h1 hqq i (by omega)
  · have := cO_le p pn
    rw [l1, show pn + 1 - (cO p pn + 1) = pn - cO p pn from by omega]
    exact h6 b t hd
theorem RA_told {o0 a0 : Nat → Int32} {n0 : Nat} {o a o' a' : Nat → Int32} {n n' : Nat} {p : Nat → Int32} {pn : Nat} {opn br : Int} (h : RA o0 a0 n0 o a n p pn opn br 0) (hx : TX o a n o' a' n') : RA o0 a0 n0 o' a' n' p pn opn br 1 := by
  obtain ⟨h1, h2, h3, h4, h5, h6⟩ := h
  refine ⟨h1, h2, h3, Nat.le_trans h4 hx.1, fun i hi => ?_, fun b t hd => hx.2.2 b _ (h6 b t hd)⟩
  have e1 := h5 i hi
  have e2 := hx.2.1 i (by omega)
  exact ⟨e2.1.trans e1.1, e2.2.trans e1.2⟩
theorem RA_not {o0 a0 : Nat → Int32} {n0 : Nat} {o a o' a' : Nat → Int32} {n n' : Nat} {p : Nat → Int32} {pn pn' : Nat} {opn opn' br : Int} (h : RA o0 a0 n0 o a n p pn opn br 1) (hx : SE 9 p pn o a n pn' o' a' n') (ho : opn' = opn - ((pn : Int) - pn')) : RA o0 a0 n0 o' a' n' p pn' opn' br 1 := by
  obtain ⟨h1, h2, h3, h4, h5, h6⟩ := h
  obtain ⟨x1, x2, x3, x4, x5⟩ := hx
  have q := (cO_pop (p := p) (w := 9) (n' := pn') (pn - pn') (fun j z1 z2 => x3 j z1 (by omega))).1 rfl
  have q2 := cB_pop (p := p) (w := 9) (by decide) (n' := pn') (pn - pn') (fun j z1 z2 => x3 j z1 (by omega))
  rw [show pn' + (pn - pn') = pn from by omega] at q q2
  have := cO_le p pn'
  refine ⟨PV_less h1 x1, by omega, by omega, by omega, fun i hi => ?_, fun b t hd => ?_⟩
  · have e1 := h5 i hi
    have e2 := x4 i (by omega)
    exact ⟨e2.1.trans e1.1, e2.2.trans e1.2⟩
  · have z := DP_same (h6 b t hd) (o' := o') (a' := a') (fun i _ hi => x4 i hi)
    have z2 := DP_nots (by omega) (pn - pn') n z (fun i y1 y2 => x5 i y1 (by omega))
    rw [show pn' - cO p pn' = pn - cO p pn from by omega, x2]
    exact z2
theorem RA_bin {w : Int32} (hw : ¬ w = 0 ∧ ¬ w = 1 ∧ ¬ w = 9 ∧ ¬ w = 5) (hw2 : ¬ w = 12) {o0 a0 : Nat → Int32} {n0 : Nat} {o a o' a' : Nat → Int32} {n n' : Nat} {p : Nat → Int32} {pn pn' : Nat} {opn br : Int} (h : RA o0 a0 n0 o a n p pn opn br 1) (hx : SE w p pn o a n pn' o' a' n') : RA o0 a0 n0 o' a' n' p pn' opn br 1 := by
  obtain ⟨h1, h2, h3, h4, h5, h6⟩ := h
  obtain ⟨x1, x2, x3, x4, x5⟩ := hx
  have q := (cO_pop (p := p) (w := w) (n' := pn') (pn - pn') (fun j z1 z2 => x3 j z1 (by omega))).2 hw.2.2.1 hw2
  have q2 := cB_pop (p := p) (w := w) hw2 (n' := pn') (pn - pn') (fun j z1 z2 => x3 j z1 (by omega))
  rw [show pn' + (pn - pn') = pn from by omega] at q q2
  have := cO_le p pn'
  refine ⟨PV_less h1 x1, by omega, by omega, by omega, fun i hi => ?_, fun b t hd => ?_⟩
  · have e1 := h5 i hi
    have e2 := x4 i (by omega)
    exact ⟨e2.1.trans e1.1, e2.2.trans e1.2⟩
  · have z := DP_same (h6 b t hd) (o' := o') (a' := a') (fun i _ hi => x4 i hi)
    rw [show t + (pn - cO p pn) + 1 = t + (pn' - cO p pn') + 1 + (pn - pn') from by omega] at z
    have z2 := DP_twos hw (by omega) (pn - pn') n z (fun i y1 y2 => x5 i y1 (by omega))
    rw [x2]
    exact z2
def NT (w : Int32) (p : Nat → Int32) (n : Nat) : Prop := n = 0 ∨ ¬ p (n - 1) = w
theorem NT_keep9a {p : Nat → Int32} {n n' : Nat} (hv : PV p n) (h : NT 9 p n) (h2 : n' ≤ n) (h3 : ∀ j : Nat, n' ≤ j → j < n → p j = 10) : NT 9 p n' := by
  by_cases e : n' = n
  · rw [e]; exact h
  · by_cases e0 : n' = 0
    · exact Or.inl e0
    · refine Or.inr ?_
      have y := h3 n' (Nat.le_refl _) (by omega)
      rcases hv n' (by omega) with z | z | z | z
      · rw [y] at z; exact absurd z (by decide)
      · rw [y] at z; exact absurd z (by decide)
      · exact (z.2.elim (fun q => absurd q e0) id).2
      · rw [y] at z; exact absurd z.1 (by decide)
theorem NT_keepo {w : Int32} (hw : w = 9 ∨ w = 10) {p : Nat → Int32} {n n' : Nat} (hv : PV p n) (h : NT w p n) (h2 : n' ≤ n) (h3 : ∀ j : Nat, n' ≤ j → j < n → p j = 11) : NT w p n' := by
  by_cases e : n' = n
  · rw [e]; exact h
  · by_cases e0 : n' = 0
    · exact Or.inl e0
    · refine Or.inr ?_
      have y := h3 n' (Nat.le_refl _) (by omega)
      rcases hv n' (by omega) with z | z | z | z
      · rw [y] at z; exact absurd z (by decide)
      · rw [y] at z; exact absurd z (by decide)
      · rw [y] at z; exact absurd z.1 (by decide)
      · have x := z.2.elim (fun q => absurd q e0) id
        rcases hw with rfl | rfl
        · exact x.2.2
        · exact x.1
theorem RA_and {o0 a0 : Nat → Int32} {n0 : Nat} {o a : Nat → Int32} {n : Nat} {p q : Nat → Int32} {pn : Nat} {opn br : Int} (h : RA o0 a0 n0 o a n p pn opn br 1) (h9 : NT 9 p pn) (ht : NT 10 p pn) (hq : q pn = 10) (hqq : ∀ i : Nat, i < pn → q i = p i) : RA o0 a0 n0 o a n q (pn + 1) opn br 0 := by
  obtain ⟨h1, h2, h3, h4, h5, h6⟩ := h
  have e1 := cO_same pn hqq
  have e2 := cB_same pn hqq
  have l1 : cO q (pn + 1) = cO p pn := by rw [cO_s, e1, wOp_0 (by rw [hq]; decide)]; rfl
  have l2 : cB q (pn + 1) = cB p pn := by rw [cB_s, e2, wBr, hq]; rfl
  have := cO_le p pn
  refine ⟨fun i hi => ?_, by omega, by omega, h4, h5, fun b t hd => ?_⟩
  · by_cases e : i = pn
    · refine Or.inr (Or.inr (Or.inl ⟨by rw [e]; exact hq, ?_⟩))
      by_cases e0 : i = 0
      · exact Or.inl e0
      · refine Or.inr ?_
        rw [e, hqq _ (by omega)]
        exact ⟨ht.elim (fun z => absurd z (by omega)) id, h9.elim (fun z => absurd z (by omega)) id⟩
    · exact PV_same h1 hqq i (by omega)
  · rw [l1, show t + (pn + 1 - cO p pn) + 0 = t + (pn - cO p pn) + 1 from by omega]
    exact h6 b t hd
theorem RA_or {o0 a0 : Nat → Int32} {n0 : Nat} {o a : Nat → Int32} {n : Nat} {p q : Nat → Int32} {pn : Nat} {opn br : Int} (h : RA o0 a0 n0 o a n p pn opn br 1) (h9 : NT 9 p pn) (ht : NT 10 p pn) (ht2 : NT 11 p pn) (hq : q pn = 11) (hqq : ∀ i : Nat, i < pn → q i = p i) : RA o0 a0 n0 o a n q (pn + 1) opn br 0 := by
  obtain ⟨h1, h2, h3, h4, h5, h6⟩ := h
  have e1 := cO_same pn hqq
  have e2 := cB_same pn hqq
  have l1 : cO q (pn + 1) = cO p pn := by rw [cO_s, e1, wOp_0 (by rw [hq]; decide)]; rfl
  have l2 : cB q (pn + 1) = cB p pn := by rw [cB_s, e2, wBr, hq]; rfl
  have := cO_le p pn
  refine ⟨fun i hi => ?_, by omega, by omega, h4, h5, fun b t hd => ?_⟩
  · by_cases e : i = pn
    · refine Or.inr (Or.inr (Or.inr ⟨by rw [e]; exact hq, ?_⟩))
      by_cases e0 : i = 0
      · exact Or.inl e0
      · refine Or.inr ?_
        rw [e, hqq _ (by omega)]
        exact ⟨ht.elim (fun z => absurd z (by omega)) id, ht2.elim (fun z => absurd z (by omega)) id, h9.elim (fun z => absurd z (by omega)) id⟩
    · exact PV_same h1 hqq i (by omega)
  · rw [l1, show t + (pn + 1 - cO p pn) + 0 = t + (pn - cO p pn) + 1 from by omega]
    exact h6 b t hd
theorem RA_close {o0 a0 : Nat → Int32} {n0 : Nat} {o a : Nat → Int32} {n : Nat} {p : Nat → Int32} {pn pn' : Nat} {opn br opn' br' : Int} (h : RA o0 a0 n0 o a n p pn opn br 1) (h9 : NT 9 p pn) (ht : NT 10 p pn) (ht2 : NT 11 p pn) (hb : 0 < br) (hn : (pn' : Int) = pn - 1) (ho : opn' = opn - 1) (hb2 : br' = br - 1) : RA o0 a0 n0 o a n p pn' opn' br' 1 := by
  obtain ⟨h1, h2, h3, h4, h5, h6⟩ := h
  have c1 := cB_le p pn
  have c2 := cO_le p pn
  obtain ⟨k, rfl⟩ : ∃ k, pn = k + 1 := ⟨pn - 1, by omega⟩
  have e : pn' = k := by omega
  subst e
  have hk : p pn' = 12 := by
    rcases h1 pn' (by omega) with z | z | z | z
    · exact absurd z (h9.elim (fun y => absurd y (by omega)) (fun y => y))
    · exact z
    · exact absurd z.1 (ht.elim (fun y => absurd y (by omega)) (fun y => y))
    · exact absurd z.1 (ht2.elim (fun y => absurd y (by omega)) (fun y => y))
  have l1 : cO p (pn' + 1) = cO p pn' + 1 := by rw [cO_s, wOp_1 (Or.inr hk)]
  have l2 : cB p (pn' + 1) = cB p pn' + 1 := by
    rw [cB_s, wBr, if_pos hk]
  have := cO_le p pn'
  refine ⟨PV_less h1 (by omega), by omega, by omega, h4, h5, fun b t hd => ?_⟩
  have z := h6 b t hd
  rwa [l1, show pn' + 1 - (cO p pn' + 1) = pn' - cO p pn' from by omega] at z
theorem RA_br {o0 a0 : Nat → Int32} {n0 : Nat} {o a : Nat → Int32} {n : Nat} {p : Nat → Int32} {pn : Nat} {opn br : Int} {u : Nat} (h : RA o0 a0 n0 o a n p pn opn br u) : 0 ≤ br ∧ br ≤ (pn : Int) ∧ 0 ≤ opn := by
  have := h.2.2.1
  have := h.2.1
  have := cB_le p pn
  have := cO_le p pn
  exact ⟨by omega, by omega, by omega⟩
theorem RA_end {o0 a0 : Nat → Int32} {n0 : Nat} {o a : Nat → Int32} {n : Nat} {p : Nat → Int32} {pn : Nat} {opn br : Int} (h : RA o0 a0 n0 o a n p pn opn br 1) (h9 : NT 9 p pn) (ht : NT 10 p pn) (ht2 : NT 11 p pn) (hz : br = 0) : TX o0 a0 n0 o a n := by
  obtain ⟨h1, h2, h3, h4, h5, h6⟩ := h
  have e : pn = 0 := by
    by_cases e0 : pn = 0
    · exact e0
    · exfalso
      obtain ⟨k, rfl⟩ : ∃ k, pn = k + 1 := ⟨pn - 1, by omega⟩
      have l2 : cB p (k + 1) = cB p k + wBr p k := cB_s p k
      rcases h1 k (by omega) with z | z | z | z
      · exact absurd z (h9.elim (fun y => absurd y (by omega)) (fun y => y))
      · rw [wBr, if_pos z] at l2; omega
      · exact absurd z.1 (ht.elim (fun y => absurd y (by omega)) (fun y => y))
      · exact absurd z.1 (ht2.elim (fun y => absurd y (by omega)) (fun y => y))
  subst e
  exact ⟨h4, h5, fun b t hd => h6 b t hd⟩
theorem RA_pn {o0 a0 : Nat → Int32} {n0 : Nat} {o a : Nat → Int32} {n : Nat} {p : Nat → Int32} {pn pn' : Nat} {opn br br' : Int} {u u' : Nat} (h : RA o0 a0 n0 o a n p pn opn br u) (e : pn' = pn) (e2 : u' = u) (e3 : br' = br) : RA o0 a0 n0 o a n p pn' opn br' u' := by
  subst e; subst e2; subst e3; exact h
theorem k10 : ¬ (10 : Int32) = 0 ∧ ¬ (10 : Int32) = 1 ∧ ¬ (10 : Int32) = 9 ∧ ¬ (10 : Int32) = 5 := by decide +kernel
theorem k11 : ¬ (11 : Int32) = 0 ∧ ¬ (11 : Int32) = 1 ∧ ¬ (11 : Int32) = 9 ∧ ¬ (11 : Int32) = 5 := by decide +kernel
theorem k10b : ¬ (10 : Int32) = 12 := by decide +kernel
theorem k11b : ¬ (11 : Int32) = 12 := by decide +kernel
def LT (f : Nat → Int32) (a b : Int) : Prop := ∀ j : Nat, a ≤ (j : Int) → (j : Int) < b → ¬ (f j).toInt = 32
theorem LT_one {f : Nat → Int32} {i v : Int32} {a b : Int} (hv : v = f i.toNatClampNeg) (h32 : ¬ v.toInt = 32) (h0 : 0 ≤ i.toInt) (ha : a = i.toInt) (hb : b = i.toInt + 1) : LT f a b := by
  intro j h1 h2
  have e := idxI (x := i) h0
  rw [show j = i.toNatClampNeg from by omega, ← hv]; exact h32
theorem LT_step {f : Nat → Int32} {i v : Int32} {a b c : Int} (h : LT f a b) (hv : v = f i.toNatClampNeg) (h32 : ¬ v.toInt = 32) (h0 : 0 ≤ i.toInt) (hb : b = i.toInt) (hc : c = b + 1) : LT f a c := by
  intro j h1 h2
  by_cases q : (j : Int) < b
  · exact h j h1 q
  · have e := idxI (x := i) h0
    rw [show j = i.toNatClampNeg from by omega, ← hv]; exact h32
theorem wd_stop2 {f : Nat → Int32} {i v : Int32} (hv : v = f i.toNatClampNeg) (h32 : ¬ v.toInt = 32) (hf : (f 153).toInt = 32) : ¬ i.toInt = 153 := by
  intro e
  have e1 := idxI (x := i) (by omega)
  rw [show i.toNatClampNeg = 153 from by omega] at hv
  exact h32 (by rw [hv]; exact hf)
theorem wd_stop {f g : Nat → Int32} {i v j u : Int32} {a b : Int} (hv : v = f i.toNatClampNeg) (hu : u = g j.toNatClampNeg) (he : v.toInt = u.toInt) (hf : (f 153).toInt = 32) (hl : LT g a b) (h0 : 0 ≤ j.toInt) (hj : a ≤ j.toInt ∧ j.toInt < b) : ¬ i.toInt = 153 := by
  have e := idxI (x := j) h0
  refine wd_stop2 hv ?_ hf
  rw [he, hu]
  exact hl _ (by omega) (by omega)
theorem pd_eq {p : Nat → Int32} {i v w : Int32} {n : Nat} (hv : v = p i.toNatClampNeg) (he : v.toInt = w.toInt) (hi : i.toInt = n) : p n = w := by
  have e := idxI (x := i) (by omega)
  rw [show n = i.toNatClampNeg from by omega, ← hv]
  exact Int32.toInt_inj.mp he
theorem pd_ne {p : Nat → Int32} {i v w : Int32} {n : Nat} (hv : v = p i.toNatClampNeg) (he : ¬ v.toInt = w.toInt) (hi : i.toInt = n) : ¬ p n = w := by
  have e := idxI (x := i) (by omega)
  rw [show n = i.toNatClampNeg from by omega, ← hv]
  exact fun q => he (by rw [q])
theorem pd_wt {p q : Nat → Int32} {i w : Int32} {n : Nat} (hq : q = upd p i.toNatClampNeg w) (hi : i.toInt = n) : q n = w ∧ ∀ j : Nat, j < n → q j = p j := by
  have e := idxI (x := i) (by omega)
  rw [show i.toNatClampNeg = n from by omega] at hq
  exact ⟨by rw [hq, pk_us], fun j hj => by rw [hq, pk_un (by omega)]⟩
def LW (p q : Nat) (o a lf lw lt : Nat → Int32) (n top : Int) : Prop := ∀ l : Nat, (l : Int) < n → (0 ≤ (lf (p + l)).toInt ∧ (lf (p + l)).toInt ≤ (lw (p + l)).toInt ∧ (lw (p + l)).toInt ≤ (lt (p + l)).toInt ∧ (lt (p + l)).toInt ≤ top) ∧ DP o a (q + (lf (p + l)).toInt.toNat) (q + (lw (p + l)).toInt.toNat) 1 ∧ ((lw (p + l)).toInt = (lt (p + l)).toInt ∨ DP o a (q + (lw (p + l)).toInt.toNat) (q + (lt (p + l)).toInt.toNat) 1)
theorem LW_nil {p q : Nat} {o a lf lw lt : Nat → Int32} {n top : Int} (h : n ≤ 0) : LW p q o a lf lw lt n top := fun l hl => absurd hl (by omega)
theorem LW_step {o a lf lw lt o1 a1 o2 a2 lf' lw' lt' : Nat → Int32} {k k' top top' : Int} {d1 d2 d3 ca cb cc : Int32} (h : LW 32 800 o a lf lw lt k top) (e1 : lf' = upd lf d1.toNatClampNeg ca) (e2 : lw' = upd lw d2.toNatClampNeg cb) (e3 : lt' = upd lt d3.toNatClampNeg cc) (i1 : d1.toInt = 32 + k) (i2 : d2.toInt = 32 + k) (i3 : d3.toInt = 32 + k) (hk : 0 ≤ k) (hk' : k' = k + 1)
    (t1 : TX o a (800 + ca.toInt.toNat) o1 a1 (800 + cb.toInt.toNat)) (t2 : (cb.toInt = cc.toInt ∧ o2 = o1 ∧ a2 = a1) ∨ TX o1 a1 (800 + cb.toInt.toNat) o2 a2 (800 + cc.toInt.toNat)) (b0 : 0 ≤ ca.toInt) (b1 : top ≤ ca.toInt) (b2 : ca.toInt ≤ cb.toInt) (b3 : cb.toInt ≤ cc.toInt) (b4 : cc.toInt ≤ top') : LW 32 800 o2 a2 lf' lw' lt' k' top' := by
  have x1 := idxI (x := d1) (by omega)
  have x2 := idxI (x := d2) (by omega)
  have x3 := idxI (x := d3) (by omega)
  have ag : ∀ i : Nat, i < 800 + cb.toInt.toNat → o2 i = o1 i ∧ a2 i = a1 i := by
    rcases t2 with z | z
    · intro i _; rw [z.2.1, z.2.2]; exact ⟨rfl, rfl⟩
    · exact z.2.1
  intro l hl
  by_cases q : (l : Int) < k
  · have z := h l q
    rw [e1, e2, e3, pk_un (by omega), pk_un (by omega), pk_un (by omega)]
    have as : ∀ i : Nat, i < 800 + ca.toInt.toNat → o2 i = o i ∧ a2 i = a i := fun i hi => by
      have y1 := t1.2.1 i hi
      have y2 := ag i (by omega)
      exact ⟨y2.1.trans y1.1, y2.2.trans y1.2⟩
    refine ⟨⟨z.1.1, z.1.2.1, z.1.2.2.1, by omega⟩, DP_same z.2.1 (fun i _ hi => as i (by omega)), z.2.2.imp id (fun y => DP_same y (fun i _ hi => as i (by omega)))⟩
  · have f1 : lf' (32 + l) = ca := by rw [e1, show 32 + l = d1.toNatClampNeg from by omega, pk_us]
    have f2 : lw' (32 + l) = cb := by rw [e2, show 32 + l = d2.toNatClampNeg from by omega, pk_us]
    have f3 : lt' (32 + l) = cc := by rw [e3, show 32 + l = d3.toNatClampNeg from by omega, pk_us]
    rw [f1, f2, f3]
    refine ⟨⟨b0, b2, b3, b4⟩, DP_same (t1.2.2 _ 0 DP_nil) (fun i _ hi => ag i hi), ?_⟩
    rcases t2 with z | z
    · exact Or.inl z.1
    · exact Or.inr (z.2.2 _ 0 DP_nil)
def MV (g f : Nat → Int32) (b c : Nat) (n : Int) : Prop := (∀ j : Nat, (j : Int) < n → g (b + j) = f (c + j)) ∧ ∀ j : Nat, (j < b ∨ (b : Int) + n ≤ j) → g j = f j
theorem MV_nil {f : Nat → Int32} {b c : Nat} {n : Int} (h : n = 0) : MV f f b c n := ⟨fun j hj => absurd hj (by omega), fun _ _ => rfl⟩
theorem MV_step {g g' f : Nat → Int32} {b c : Nat} {i d e x j : Int32} {m : Int} (h : MV g f b c i.toInt) (hg : g' = upd g d.toNatClampNeg x) (hx : x = g e.toNatClampNeg) (hd : d.toInt = b + i.toInt) (he : e.toInt = c + i.toInt) (h0 : 0 ≤ i.toInt) (hm : i.toInt < m) (hc : b + m ≤ c) (hj : j.toInt = i.toInt + 1) : MV g' f b c j.toInt := by
  have e1 := idxI (x := d) (by omega)
  have e2 := idxI (x := e) (by omega)
  refine ⟨fun k hk => ?_, fun k hk => ?_⟩
  · rw [hg]
    by_cases q : (k : Int) < i.toInt
    · rw [pk_un (by omega)]; exact h.1 k q
    · rw [show b + k = d.toNatClampNeg from by omega, pk_us, hx, h.2 _ (by omega)]
      congr 1; omega
  · rw [hg, pk_un (by omega)]; exact h.2 k (by omega)
theorem LW_move {p q : Nat} {o a lf lw lt o' a' lf' lw' lt' : Nat → Int32} {n m top : Int} (h : LW 32 800 o a lf lw lt n top) (ht : top ≤ m) (h4 : m ≤ 400) (m1 : MV lf' lf p 32 n) (m2 : MV lw' lw p 32 n) (m3 : MV lt' lt p 32 n) (m4 : MV o' o q 800 m) (m5 : MV a' a q 800 m) : LW p q o' a' lf' lw' lt' n 400 := by
  intro l hl
  have z := h l hl
  rw [m1.1 l hl, m2.1 l hl, m3.1 l hl]
  have g : ∀ x y : Nat, (y : Int) ≤ m → DP o a (800 + x) (800 + y) 1 → DP o' a' (q + x) (q + y) 1 := by
    intro x y hy hd
    have hxy := hd.1
    have w := DP_move (o' := o') (a' := a') (c := q + x) hd (fun i h1 h2 => by
      have y1 := m4.1 (i - 800) (by omega)
      have y2 := m5.1 (i - 800) (by omega)
      rw [show q + (i - 800) = q + x + (i - (800 + x)) from by omega, show 800 + (i - 800) = i from by omega] at y1 y2
      exact ⟨y1, y2⟩)
    rwa [show q + x + (800 + y - (800 + x)) = q + y from by omega] at w
  exact ⟨⟨z.1.1, z.1.2.1, z.1.2.2.1, by omega⟩, g _ _ (by omega) z.2.1, z.2.2.imp id (g _ _ (by omega))⟩
theorem LW_keep {p q p' q' : Nat} {o a lf lw lt o' a' lf' lw' lt' : Nat → Int32} {n k m : Int} (h : LW p q o a lf lw lt n 400) (hn : n ≤ 16) (m1 : MV lf' lf p' 32 k) (m2 : MV lw' lw p' 32 k) (m3 : MV lt' lt p' 32 k) (m4 : MV o' o q' 800 m) (m5 : MV a' a q' 800 m) (hp : p + 16 ≤ p' ∨ (p' : Int) + k ≤ p) (hq : q + 400 ≤ q' ∨ (q' : Int) + m ≤ q) : LW p q o' a' lf' lw' lt' n 400 := by
  intro l hl
  have z := h l hl
  rw [m1.2 (p + l) (by omega), m2.2 (p + l) (by omega), m3.2 (p + l) (by omega)]
  have g : ∀ x y : Nat, y ≤ 400 → DP o a (q + x) (q + y) 1 → DP o' a' (q + x) (q + y) 1 := fun x y hy hd => DP_same hd (fun i h1 h2 => ⟨m4.2 i (by omega), m5.2 i (by omega)⟩)
  exact ⟨z.1, g _ _ (by omega) z.2.1, z.2.2.imp id (g _ _ (by omega))⟩
theorem ST_push {o a : Nat → Int32} {b k t u : Nat} (h : ST o a b k t u) (hk : o k = 0 ∨ o k = 1) : u = t + 1 := by
  rcases h with h | h | h | h | h
  · exact h.2
  · exact h.2.2
  · rcases hk with y | y <;> (rw [y] at h; exact absurd h.1 (by decide))
  · rcases hk with y | y <;> (rw [y] at h; exact absurd h.1 (by decide))
  · rcases hk with y | y
    · exact absurd y h.1
    · exact absurd y h.2.1
theorem ST_ask {o a : Nat → Int32} {b k t u : Nat} (h : ST o a b k t u) (hk : o k = 1) : 0 ≤ (a k).toInt ∧ (a k).toInt ≤ 9 := by
  rcases h with h | h | h | h | h
  · rw [hk] at h; exact absurd h.1 (by decide)
  · exact h.2.1
  · rw [hk] at h; exact absurd h.1 (by decide)
  · rw [hk] at h; exact absurd h.1 (by decide)
  · exact absurd hk h.2.1
theorem ST_not {o a : Nat → Int32} {b k t u : Nat} (h : ST o a b k t u) (hk : o k = 9) : 1 ≤ t ∧ u = t := by
  rcases h with h | h | h | h | h
  · rw [hk] at h; exact absurd h.1 (by decide)
  · rw [hk] at h; exact absurd h.1 (by decide)
  · exact h.2
  · rw [hk] at h; exact absurd h.1 (by decide)
  · exact absurd hk h.2.2.1
theorem ST_two {o a : Nat → Int32} {b k t u : Nat} (h : ST o a b k t u) (h0 : ¬ o k = 0) (h1 : ¬ o k = 1) (h9 : ¬ o k = 9) : 2 ≤ t ∧ u + 1 = t := by
  rcases h with h | h | h | h | h
  · exact absurd h.1 h0
  · exact absurd h.1 h1
  · exact absurd h.1 h9
  · exact ⟨h.2.2.2.2.1, h.2.2.2.2.2⟩
  · exact ⟨h.2.2.2.2.1, h.2.2.2.2.2⟩
theorem ST_part {o a : Nat → Int32} {b k t u : Nat} (h : ST o a b k t u) (hk : o k = 5) : b < k ∧ o (k - 1) = 0 ∧ ¬ a (k - 1) = 0 := by
  rcases h with h | h | h | h | h
  · rw [hk] at h; exact absurd h.1 (by decide)
  · rw [hk] at h; exact absurd h.1 (by decide)
  · rw [hk] at h; exact absurd h.1 (by decide)
  · exact ⟨h.2.1, h.2.2.1, h.2.2.2.1⟩
  · exact absurd hk h.2.2.2.1
theorem LW_em {p q k : Nat} {o a o' a' lf lw lt : Nat → Int32} {n : Int} {w v : Int32} (h : LW p q o a lf lw lt n 400) (e : EM o a o' a' k w v) (hk : q + 400 ≤ k) : LW p q o' a' lf lw lt n 400 := by
  intro l hl
  have z := h l hl
  have g : ∀ x y : Nat, y ≤ 400 → DP o a (q + x) (q + y) 1 → DP o' a' (q + x) (q + y) 1 := fun x y hy hd => DP_same hd (fun i h1 h2 => e.2.2 i (by omega))
  exact ⟨z.1, g _ _ (by omega) z.2.1, z.2.2.imp id (g _ _ (by omega))⟩
theorem LW_rows {p q : Nat} {o a lf lw lt lf' lw' lt' : Nat → Int32} {n : Int} (h : LW p q o a lf lw lt n 400) (e1 : ∀ j : Nat, j < 32 → lf' j = lf j) (e2 : ∀ j : Nat, j < 32 → lw' j = lw j) (e3 : ∀ j : Nat, j < 32 → lt' j = lt j) (hn : (p : Int) + n ≤ 32) : LW p q o a lf' lw' lt' n 400 := by
  intro l hl
  rw [e1 (p + l) (by omega), e2 (p + l) (by omega), e3 (p + l) (by omega)]
  exact h l hl
theorem un1 {f g : Nat → Int32} {i x : Int32} {j : Nat} (hg : g = upd f i.toNatClampNeg x) (h0 : 0 ≤ i.toInt) (hj : ¬ (j : Int) = i.toInt) : g j = f j := by
  have e := idxI h0
  rw [hg, pk_un (by omega)]
theorem us1 {f g : Nat → Int32} {i x : Int32} {j : Nat} (hg : g = upd f i.toNatClampNeg x) (h0 : 0 ≤ i.toInt) (hj : (j : Int) = i.toInt) : g j = x := by
  have e := idxI h0
  rw [hg, show j = i.toNatClampNeg from by omega, pk_us]
