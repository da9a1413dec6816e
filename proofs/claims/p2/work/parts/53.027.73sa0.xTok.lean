/-! texts as signs and words, told once for both readers -/
def spcB (c : Int) : Bool := decide (c = 32) || decide (c = 10)
def ltrB (c : Int) : Bool := (decide (97 ≤ c) && decide (c ≤ 122)) || (decide (65 ≤ c) && decide (c ≤ 90))
def dgtB (c : Int) : Bool := decide (48 ≤ c) && decide (c ≤ 57)
def sgnB (c : Int) : Bool := [59, 43, 45, 42, 47, 40, 41, 60, 61, 62].contains c
def runI (P : Int → Bool) (t : Nat → Int32) (n : Int) : Nat → Int → Int
  | 0, a => a
  | k + 1, a => if a < n ∧ P (t a.toNat).toInt = true then runI P t n k (a + 1) else a
def rnI (P : Int → Bool) (t : Nat → Int32) (n a : Int) : Int := runI P t n (n - a).toNat a
section Rns
variable {P : Int → Bool} {t : Nat → Int32} {n a : Int}
theorem rnI_end (h : n ≤ a) : rnI P t n a = a := by
  unfold rnI
  rw [show (n - a).toNat = 0 from by omega]
  rfl
theorem rnI_eq (h : a < n) : rnI P t n a = if P (t a.toNat).toInt = true then rnI P t n (a + 1) else a := by
  unfold rnI
  rw [show (n - a).toNat = (n - (a + 1)).toNat + 1 from by omega]
  show (if a < n ∧ P (t a.toNat).toInt = true then _ else _) = _
  by_cases hp : P (t a.toNat).toInt = true
  · rw [if_pos ⟨h, hp⟩, if_pos hp]
  · rw [if_neg (fun q => hp q.2), if_neg hp]
theorem rnI_in (h : a < n) (hp : P (t a.toNat).toInt = true) : rnI P t n a = rnI P t n (a + 1) := by rw [rnI_eq h, if_pos hp]
theorem rnI_out (h : a < n) (hp : P (t a.toNat).toInt = false) : rnI P t n a = a := by rw [rnI_eq h, if_neg (by rw [hp]; decide)]
theorem rnI_b : ∀ (k : Nat) (a : Int), (n - a).toNat = k → a ≤ rnI P t n a ∧ (a ≤ n → rnI P t n a ≤ n) := by
  intro k
  induction k with
  | zero => intro a h; rw [rnI_end (by omega)]; exact ⟨Int.le_refl _, fun q => q⟩
  | succ k ih =>
    intro a h
    rw [rnI_eq (by omega)]
    by_cases hp : P (t a.toNat).toInt = true
    · rw [if_pos hp]
      have q := ih (a + 1) (by omega)
      exact ⟨by omega, fun _ => q.2 (by omega)⟩
    · rw [if_neg hp]; exact ⟨Int.le_refl _, fun q => q⟩
theorem rnI_le : a ≤ rnI P t n a := (rnI_b _ a rfl).1
theorem rnI_len (h : a ≤ n) : rnI P t n a ≤ n := (rnI_b _ a rfl).2 h
theorem rnI_step {i v : Int32} {s m : Int} (h : rnI P t n i.toInt = s) (e : v = t i.toNatClampNeg) (h0 : 0 ≤ i.toInt) (hi : i.toInt < n) (hp : P v.toInt = true) (hm : m = i.toInt + 1) : rnI P t n m = s := by
  have q := idxI h0
  rw [hm, ← h, rnI_in hi (by rw [show i.toInt.toNat = i.toNatClampNeg from by omega, ← e]; exact hp)]
theorem rnI_stop {i v : Int32} {s : Int} (h : rnI P t n i.toInt = s) (e : v = t i.toNatClampNeg) (h0 : 0 ≤ i.toInt) (hi : i.toInt < n) (hp : P v.toInt = false) : i.toInt = s := by
  have q := idxI h0
  rw [← h, rnI_out hi (by rw [show i.toInt.toNat = i.toNatClampNeg from by omega, ← e]; exact hp)]
theorem rnI_full {i : Int32} {s : Int} (h : rnI P t n i.toInt = s) (hi : n ≤ i.toInt) : i.toInt = s := by rw [← h, rnI_end hi]
end Rns
/-- a number's digits, the first k of them -/
def decI (t : Nat → Int32) (a : Int) : Nat → Int
  | 0 => 0
  | k + 1 => 10 * decI t a k + (t (a + (k : Int)).toNat).toInt - 48
/-- a word from a on -/
def wmI (t : Nat → Int32) : List Int → Int → Bool
  | [], _ => true
  | c :: w, a => decide ((t a.toNat).toInt = c) && wmI t w (a + 1)
def wsI (t : Nat → Int32) (a b : Int) (w : List Int) : Bool := decide (b = a + (w.length : Int)) && wmI t w a
/-- the number of the word that stands from a to b, counted from k; -1 -/
def wxI (t : Nat → Int32) (a b : Int) : List (List Int) → Int → Int
  | [], _ => -1
  | w :: ws, k => if wsI t a b w = true then k else wxI t a b ws (k + 1)
/-- as the class looks for it: sign by sign of the words' text (32 between them) -/
def scnI (t : Nat → Int32) (a b : Int) : List Int → Int → Int → Bool → Int
  | [], k, s, q => if q = true ∧ s = b then k else -1
  | c :: cs, k, s, q => if c ≠ 32 then scnI t a b cs k (s + 1) (q && decide (s < b) && decide ((t s.toNat).toInt = c)) else if q = true ∧ s = b then k else scnI t a b cs (k + 1) a true
def noSp (w : List Int) : Prop := ∀ c ∈ w, c ≠ 32
theorem scn_bad {t : Nat → Int32} {a b : Int} : ∀ (w : List Int) (k s : Int), noSp w → scnI t a b w k s false = -1
  | [], k, s, _ => by show (if false = true ∧ s = b then k else -1) = -1; rw [if_neg (fun q => by cases q.1)]
  | c :: w, k, s, h => by
    show (if c ≠ 32 then scnI t a b w k (s + 1) (false && decide (s < b) && decide ((t s.toNat).toInt = c)) else _) = -1
    rw [if_pos (h c (List.mem_cons_self ..))]
    show scnI t a b w k (s + 1) false = -1
    exact scn_bad w k (s + 1) (fun x hx => h x (List.mem_cons_of_mem _ hx))
theorem scn_badS {t : Nat → Int32} {a b : Int} : ∀ (w cs : List Int) (k s : Int), noSp w → scnI t a b (w ++ 32 :: cs) k s false = scnI t a b cs (k + 1) a true
  | [], cs, k, s, _ => by
    show (if (32 : Int) ≠ 32 then _ else if false = true ∧ s = b then k else scnI t a b cs (k + 1) a true) = _
    rw [if_neg (fun q => q rfl), if_neg (fun q => by cases q.1)]
  | c :: w, cs, k, s, h => by
    show (if c ≠ 32 then scnI t a b (w ++ 32 :: cs) k (s + 1) (false && decide (s < b) && decide ((t s.toNat).toInt = c)) else _) = _
    rw [if_pos (h c (List.mem_cons_self ..))]
    show scnI t a b (w ++ 32 :: cs) k (s + 1) false = _
    exact scn_badS w cs k (s + 1) (fun x hx => h x (List.mem_cons_of_mem _ hx))
theorem scn_word {t : Nat → Int32} {a b : Int} : ∀ (w : List Int) (k s : Int), noSp w → s ≤ b → scnI t a b w k s true = if b = s + (w.length : Int) ∧ wmI t w s = true then k else -1
  | [], k, s, _, hs => by
    show (if true = true ∧ s = b then k else -1) = _
    by_cases e : s = b
    · rw [if_pos ⟨rfl, e⟩, if_pos ⟨by simp [e], rfl⟩]
    · rw [if_neg (fun q => e q.2), if_neg (fun q => e (by have := q.1; simp at this; omega))]
  | c :: w, k, s, h, hs => by
    show (if c ≠ 32 then scnI t a b w k (s + 1) (true && decide (s < b) && decide ((t s.toNat).toInt = c)) else _) = _
    rw [if_pos (h c (List.mem_cons_self ..))]
    have hw : noSp w := fun x hx => h x (List.mem_cons_of_mem _ hx)
    have hl : (((c :: w).length : Nat) : Int) = (w.length : Int) + 1 := by simp
    by_cases h1 : s < b
    · by_cases h2 : (t s.toNat).toInt = c
      · rw [show (true && decide (s < b) && decide ((t s.toNat).toInt = c)) = true from by rw [decide_eq_true h1, decide_eq_true h2]; rfl, scn_word w k (s + 1) hw (by omega)]
        have e2 : wmI t (c :: w) s = wmI t w (s + 1) := by show (decide ((t s.toNat).toInt = c) && wmI t w (s + 1)) = _; rw [decide_eq_true h2]; rfl
        rw [e2, hl]
        by_cases h3 : b = s + 1 + (w.length : Int) ∧ wmI t w (s + 1) = true
        · rw [if_pos h3, if_pos ⟨by omega, h3.2⟩]
        · rw [if_neg h3, if_neg (fun q => h3 ⟨by omega, q.2⟩)]
      · rw [show (true && decide (s < b) && decide ((t s.toNat).toInt = c)) = false from by rw [decide_eq_false h2, Bool.and_false], scn_bad w k (s + 1) hw, if_neg (fun q => by
          have e2 : (decide ((t s.toNat).toInt = c) && wmI t w (s + 1)) = true := q.2
          rw [decide_eq_false h2] at e2; cases e2)]
    · rw [show (true && decide (s < b) && decide ((t s.toNat).toInt = c)) = false from by rw [decide_eq_false h1]; rfl, scn_bad w k (s + 1) hw, if_neg (fun q => by have := q.1; rw [hl] at this; omega)]
theorem scn_wordS {t : Nat → Int32} {a b : Int} : ∀ (w cs : List Int) (k s : Int), noSp w → s ≤ b → scnI t a b (w ++ 32 :: cs) k s true = if b = s + (w.length : Int) ∧ wmI t w s = true then k else scnI t a b cs (k + 1) a true
  | [], cs, k, s, _, hs => by
    show (if (32 : Int) ≠ 32 then _ else if true = true ∧ s = b then k else scnI t a b cs (k + 1) a true) = _
    rw [if_neg (fun q => q rfl)]
    by_cases e : s = b
    · rw [if_pos ⟨rfl, e⟩, if_pos ⟨by simp [e], rfl⟩]
    · rw [if_neg (fun q => e q.2), if_neg (fun q => e (by have := q.1; simp at this; omega))]
  | c :: w, cs, k, s, h, hs => by
    show (if c ≠ 32 then scnI t a b (w ++ 32 :: cs) k (s + 1) (true && decide (s < b) && decide ((t s.toNat).toInt = c)) else _) = _
    rw [if_pos (h c (List.mem_cons_self ..))]
    have hw : noSp w := fun x hx => h x (List.mem_cons_of_mem _ hx)
    have hl : (((c :: w).length : Nat) : Int) = (w.length : Int) + 1 := by simp
    by_cases h1 : s < b
    · by_cases h2 : (t s.toNat).toInt = c
      · rw [show (true && decide (s < b) && decide ((t s.toNat).toInt = c)) = true from by rw [decide_eq_true h1, decide_eq_true h2]; rfl, scn_wordS w cs k (s + 1) hw (by omega)]
        have e2 : wmI t (c :: w) s = wmI t w (s + 1) := by show (decide ((t s.toNat).toInt = c) && wmI t w (s + 1)) = _; rw [decide_eq_true h2]; rfl
        rw [e2, hl]
        by_cases h3 : b = s + 1 + (w.length : Int) ∧ wmI t w (s + 1) = true
        · rw [if_pos h3, if_pos ⟨by omega, h3.2⟩]
        · rw [if_neg h3, if_neg (fun q => h3 ⟨by omega, q.2⟩)]
      · rw [show (true && decide (s < b) && decide ((t s.toNat).toInt = c)) = false from by rw [decide_eq_false h2, Bool.and_false], scn_badS w cs k (s + 1) hw, if_neg (fun q => by
          have e2 : (decide ((t s.toNat).toInt = c) && wmI t w (s + 1)) = true := q.2
          rw [decide_eq_false h2] at e2; cases e2)]
    · rw [show (true && decide (s < b) && decide ((t s.toNat).toInt = c)) = false from by rw [decide_eq_false h1]; rfl, scn_badS w cs k (s + 1) hw, if_neg (fun q => by have := q.1; rw [hl] at this; omega)]
def joinW : List (List Int) → List Int
  | [] => []
  | [w] => w
  | w :: ws => w ++ 32 :: joinW ws
theorem wxI_ws {t : Nat → Int32} {a b : Int} {w : List Int} : wsI t a b w = true ↔ b = a + (w.length : Int) ∧ wmI t w a = true := by
  unfold wsI
  rw [Bool.and_eq_true, decide_eq_true_iff]
theorem scn_wx {t : Nat → Int32} {a b : Int} (hab : a ≤ b) : ∀ (ws : List (List Int)) (k : Int), ws ≠ [] → (∀ w ∈ ws, noSp w) → scnI t a b (joinW ws) k a true = wxI t a b ws k
  | [], _, h, _ => absurd rfl h
  | [w], k, _, h => by
    show scnI t a b w k a true = if wsI t a b w = true then k else -1
    rw [scn_word w k a (h w (List.mem_cons_self ..)) hab]
    by_cases e : wsI t a b w = true
    · rw [if_pos e, if_pos (wxI_ws.mp e)]
    · rw [if_neg e, if_neg (fun q => e (wxI_ws.mpr q))]
  | w :: w2 :: ws, k, _, h => by
    show scnI t a b (w ++ 32 :: joinW (w2 :: ws)) k a true = if wsI t a b w = true then k else wxI t a b (w2 :: ws) (k + 1)
    rw [scn_wordS w _ k a (h w (List.mem_cons_self ..)) hab, scn_wx hab (w2 :: ws) (k + 1) (by simp) (fun x hx => h x (List.mem_cons_of_mem _ hx))]
    by_cases e : wsI t a b w = true
    · rw [if_pos e, if_pos (wxI_ws.mp e)]
    · rw [if_neg e, if_neg (fun q => e (wxI_ws.mpr q))]
