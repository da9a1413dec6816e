/-! lines read one by one -/
def rdP (w : Nat) (t : Nat → Int32) (n : Int) (P : Int → Except (Int × Int) Int) (kw most : Int) : Nat → Int → Int → Except (Int × Int) Int
  | 0, _, p => .ok p
  | k + 1, c, p => if kdOf w t n p = 0 then .ok p else if most ≤ c ∧ kdOf w t n p = kw then .error (3, tkA t n p) else (P p).bind (rdP w t n P kw most k (c + 1))
def RDL (w : Nat) (t : Nat → Int32) (n : Int) (P : Int → Except (Int × Int) Int) (kw most f0 fp0 a0 pl0 kd0 vl0 i c f fp a pl kd vl : Int) : Prop := ∀ s0 : Except (Int × Int) Int, CS w t n s0 f0 fp0 a0 pl0 kd0 vl0 → ∃ s : Except (Int × Int) Int, CS w t n s f fp a pl kd vl ∧ s.bind (rdP w t n P kw most (401 - i).toNat c) = s0.bind (rdP w t n P kw most 401 0)
section RDs
variable {w : Nat} {t : Nat → Int32} {n : Int} {P : Int → Except (Int × Int) Int} {kw most f0 fp0 a0 pl0 kd0 vl0 i i' c c' f fp a pl kd vl f1 fp1 a1 pl1 kd1 vl1 f' fp' a' pl' kd' vl' : Int}
theorem RDL_init (hi : i = 0) (hc : c = 0) : RDL w t n P kw most f0 fp0 a0 pl0 kd0 vl0 i c f0 fp0 a0 pl0 kd0 vl0 := by
  subst hi hc
  exact fun s0 h => ⟨s0, h, rfl⟩
theorem RDL_fault (h : RDL w t n P kw most f0 fp0 a0 pl0 kd0 vl0 i c f fp a pl kd vl) (hf : f ≠ 0) : ∀ s0 : Except (Int × Int) Int, CS w t n s0 f0 fp0 a0 pl0 kd0 vl0 → CS w t n (s0.bind (rdP w t n P kw most 401 0)) f fp a pl kd vl := by
  intro s0 h0
  obtain ⟨s, h1, h2⟩ := h s0 h0
  rw [← h2]
  cases s with
  | error e => exact h1
  | ok p => exact absurd h1.1 hf
theorem RDL_kind (h : RDL w t n P kw most f0 fp0 a0 pl0 kd0 vl0 i c f fp a pl kd vl) (hk : kd = 0) : ∀ s0 : Except (Int × Int) Int, CS w t n s0 f0 fp0 a0 pl0 kd0 vl0 → CS w t n (s0.bind (rdP w t n P kw most 401 0)) f fp a pl kd vl := by
  intro s0 h0
  obtain ⟨s, h1, h2⟩ := h s0 h0
  rw [← h2]
  cases s with
  | error e => exact h1
  | ok p =>
    obtain ⟨g1, -, -, -⟩ := TKS_kd h1.2
    show CS w t n (rdP w t n P kw most (401 - i).toNat c p) f fp a pl kd vl
    cases (401 - i).toNat with
    | zero => exact h1
    | succ k =>
      show CS w t n (if kdOf w t n p = 0 then .ok p else _) f fp a pl kd vl
      rw [if_pos (g1.symm.trans hk)]
      exact h1
theorem RDL_full (h : RDL w t n P kw most f0 fp0 a0 pl0 kd0 vl0 i c f fp a pl kd vl) (hi : 401 ≤ i) : ∀ s0 : Except (Int × Int) Int, CS w t n s0 f0 fp0 a0 pl0 kd0 vl0 → CS w t n (s0.bind (rdP w t n P kw most 401 0)) f fp a pl kd vl := by
  intro s0 h0
  obtain ⟨s, h1, h2⟩ := h s0 h0
  rw [← h2, show (401 - i).toNat = 0 from by omega]
  cases s with
  | error e => exact h1
  | ok p => exact h1
theorem RDL_stepB (h : RDL w t n P kw most f0 fp0 a0 pl0 kd0 vl0 i c f fp a pl kd vl) (hP : ∀ p : Int, kdOf w t n p ≠ kw → ∃ e : Int × Int, P p = .error e) (hk : kd ≠ 0) (hn : ¬ (most ≤ c ∧ kd = kw)) (hp : ∀ s : Except (Int × Int) Int, CS w t n s f fp a pl kd vl → CS w t n (s.bind P) f' fp' a' pl' kd' vl') (hc : c < most → f' = 0 → c' = c + 1) (hi : i' = i + 1) (hi2 : i ≤ 400) : RDL w t n P kw most f0 fp0 a0 pl0 kd0 vl0 i' c' f' fp' a' pl' kd' vl' := by
  intro s0 h0
  obtain ⟨s, h1, h2⟩ := h s0 h0
  refine ⟨s.bind P, hp s h1, ?_⟩
  rw [← h2, show (401 - i).toNat = (401 - i').toNat + 1 from by omega]
  have hs := hp s h1
  cases s with
  | error e => rfl
  | ok p =>
    obtain ⟨g1, -, -, -⟩ := TKS_kd h1.2
    show (P p).bind _ = if kdOf w t n p = 0 then .ok p else if most ≤ c ∧ kdOf w t n p = kw then .error (3, tkA t n p) else (P p).bind (rdP w t n P kw most (401 - i').toNat (c + 1))
    rw [if_neg (fun z => hk (g1.trans z)), if_neg (fun z => hn ⟨z.1, g1.trans z.2⟩)]
    have hs : CS w t n (P p) f' fp' a' pl' kd' vl' := hs
    by_cases hm : c < most
    · cases hq : P p with
      | error e => rfl
      | ok p' =>
        rw [hq] at hs
        rw [hc hm hs.1]
    · obtain ⟨e, he⟩ := hP p (fun z => hn ⟨by omega, g1.trans z⟩)
      rw [he]; rfl
theorem RDL_stepA (h : RDL w t n P kw most f0 fp0 a0 pl0 kd0 vl0 i c f fp a pl kd vl) (hf : f = 0) (hk : kd ≠ 0) (hm : most ≤ c) (hw : kd = kw) (h3 : f1 = 3) (h4 : fp1 = pl) (hp : ∀ s : Except (Int × Int) Int, CS w t n s f1 fp1 a1 pl1 kd1 vl1 → CS w t n (s.bind P) f' fp' a' pl' kd' vl') (hi : i' = i + 1) (hi2 : i ≤ 400) : RDL w t n P kw most f0 fp0 a0 pl0 kd0 vl0 i' c' f' fp' a' pl' kd' vl' := by
  intro s0 h0
  obtain ⟨s, h1, h2⟩ := h s0 h0
  cases s with
  | error e => exact absurd (h1.1.symm.trans hf) h1.2.2
  | ok p =>
    obtain ⟨g1, -, g3, -⟩ := TKS_kd h1.2
    have q := hp (.error (3, pl)) ⟨h3, h4, (show (3 : Int) ≠ 0 from by decide)⟩
    refine ⟨.error (3, pl), q, ?_⟩
    rw [← h2, show (401 - i).toNat = (401 - i').toNat + 1 from by omega]
    show _ = if kdOf w t n p = 0 then .ok p else if most ≤ c ∧ kdOf w t n p = kw then .error (3, tkA t n p) else (P p).bind (rdP w t n P kw most (401 - i').toNat (c + 1))
    rw [if_neg (fun z => hk (g1.trans z)), if_pos ⟨hm, g1.symm.trans hw⟩, ← g3]
    rfl
theorem path_no {w : Nat} {t : Nat → Int32} {n h p : Int} (hk : kdOf w t n p ≠ 256) : ∃ e : Int × Int, pathP w t n h p = .error e := by
  refine ⟨(1, tkA t n p), ?_⟩
  unfold pathP
  have q : passP w t n (256 : Int32).toInt p = .error (1, tkA t n p) := by
    unfold passP
    rw [if_neg (fun z => hk (z.trans (by decide +kernel)))]
  rw [q]
  rfl
end RDs
