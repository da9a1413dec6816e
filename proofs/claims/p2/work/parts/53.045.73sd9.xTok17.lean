/-! both readers: the class's kind of a token is the reference's -/
def subW (w : Nat) : List Nat := [[], [0, 2, 3, 4, 5, 6, 7, 8, 9, 10, 11, 12, 13, 14, 15], [1, 2, 3, 4, 5, 6, 7, 8, 9, 10, 11, 12, 13], [16, 17, 18, 19], [20, 21, 22, 23, 24, 25, 26, 17, 27], [28, 29, 30]].getD w []
def wdsW (w : Nat) : List (List Int) := (subW w).map (fun m => WL.getD m [])
theorem wds_all : (List.range 6).all (fun w => decide (w = 0) || (decide (sTx w = joinW (wdsW w)) && !decide (wdsW w = []) && (wdsW w).all (fun u => u.all (fun c => !decide (c = 32))) && ndW (wdsW w) && (subW w).all (fun m => decide (m < 31)))) = true := by decide +kernel
theorem wds_at {w : Nat} (hw : 1 ≤ w ∧ w ≤ 5) : sTx w = joinW (wdsW w) ∧ wdsW w ≠ [] ∧ (∀ u ∈ wdsW w, noSp u) ∧ ndW (wdsW w) = true ∧ ∀ m ∈ subW w, m < 31 := by
  have q := List.all_eq_true.mp wds_all w (List.mem_range.mpr (by omega))
  rw [Bool.or_eq_true, decide_eq_true_iff] at q
  rcases q with q | q
  · omega
  · rw [Bool.and_eq_true, Bool.and_eq_true, Bool.and_eq_true, Bool.and_eq_true, decide_eq_true_iff] at q
    obtain ⟨⟨⟨⟨q1, q2⟩, q3⟩, q4⟩, q5⟩ := q
    refine ⟨q1, ?_, fun u hu c hc z => ?_, q4, fun m hm => of_decide_eq_true (List.all_eq_true.mp q5 m hm)⟩
    · intro z
      rw [decide_eq_true z] at q2
      exact absurd q2 (by decide)
    · have y := List.all_eq_true.mp (List.all_eq_true.mp q3 u hu) c hc
      rw [decide_eq_true z] at y
      exact absurd y (by decide)
theorem wdsW_len {w : Nat} : (wdsW w).length = (subW w).length := by unfold wdsW; rw [List.length_map]
theorem wdsW_get {w j : Nat} (hj : j < (subW w).length) : (wdsW w).getD j [] = WL.getD ((subW w).getD j 0) [] := by
  unfold wdsW
  rw [List.getD_eq_getElem?_getD, List.getElem?_map, List.getD_eq_getElem?_getD (l := subW w), List.getElem?_eq_getElem hj]
  rfl
theorem subW_lt {w j : Nat} (hw : 1 ≤ w ∧ w ≤ 5) (hj : j < (subW w).length) : (subW w).getD j 0 < WL.length := by
  have q := (wds_at hw).2.2.2.2 ((subW w).getD j 0) (by rw [List.getD_eq_getElem?_getD, List.getElem?_eq_getElem hj]; exact List.getElem_mem hj)
  exact q
theorem sg_rng {c : Int} (h : sgnB c = true) : 40 ≤ c ∧ c ≤ 62 := by
  have z : c ∈ ([59, 43, 45, 42, 47, 40, 41, 60, 61, 62] : List Int) := List.contains_iff_mem.mp h
  simp only [List.mem_cons, List.not_mem_nil, or_false] at z
  omega
section KCs
variable {w : Nat} {t : Nat → Int32} {n p h lo hi c g due : Int}
theorem kd_cases (hw : 1 ≤ w ∧ w ≤ 5) : (kdOf w t n p = 0 ∧ ctOf t n p = 0) ∨ (kdOf w t n p = 1 ∧ ctOf t n p = 3) ∨ (kdOf w t n p = 2 ∧ ctOf t n p = 1) ∨ (kdOf w t n p = 2 ∧ ctOf t n p = 2 ∧ ∀ j : Nat, j < (subW w).length → wdOf t n p ≠ ((subW w).getD j 0 : Int)) ∨ (∃ j : Nat, j < (subW w).length ∧ kdOf w t n p = 256 + (j : Int) ∧ ctOf t n p = 2 ∧ wdOf t n p = ((subW w).getD j 0 : Int)) ∨ ((40 ≤ kdOf w t n p ∧ kdOf w t n p ≤ 62) ∧ ctOf t n p = 4 ∧ kdOf w t n p = sgOf t n p) := by
  obtain ⟨w1, w2, w3, w4, w5⟩ := wds_at hw
  unfold kdOf ctOf wdOf sgOf nxtI
  generalize ha : tkA t n p = a
  by_cases c1 : n ≤ a
  · refine Or.inl ⟨?_, ?_⟩
    · unfold tkK; rw [if_pos c1]
    · unfold tkC; rw [if_pos c1]
  · by_cases c2 : ltrB (t a.toNat).toInt = true
    · have hb : tkB t n a = rnI ltrB t n a := by unfold tkB; rw [if_neg c1, if_pos c2]
      have hab : a ≤ tkB t n a := by rw [hb]; exact rnI_le
      generalize tkB t n a = b at hab ⊢
      have es : scnI t a b (sTx w) 0 a true = wxI t a b (wdsW w) 0 := by rw [w1]; exact scn_wx hab _ 0 w2 w3
      have ek : tkK w t n a b = if wxI t a b (wdsW w) 0 = -1 then 2 else 256 + wxI t a b (wdsW w) 0 := by
        unfold tkK; rw [if_neg c1, if_pos c2, es]
      have ec : tkC t n a b = if wxI t a b WL 0 = -1 then 1 else 2 := by
        unfold tkC; rw [if_neg c1, if_pos c2]
      rw [ek, ec]
      rcases wx_of (t := t) (a := a) (b := b) (wdsW w) 0 with ⟨q1, q2⟩ | ⟨j, q1, q2, q3⟩
      · rw [if_pos q1]
        rcases wx_of (t := t) (a := a) (b := b) WL 0 with ⟨r1, -⟩ | ⟨m, r1, r2, r3⟩
        · exact Or.inr (Or.inr (Or.inl ⟨rfl, if_pos r1⟩))
        · refine Or.inr (Or.inr (Or.inr (Or.inl ⟨rfl, if_neg (by omega), fun j hj z => ?_⟩)))
          have y := q2 j (by rw [wdsW_len]; exact hj)
          rw [wdsW_get hj] at y
          have x := (wx_iff (t := t) (a := a) (b := b) (k := 0) WL_nd (by decide) (subW_lt hw hj)).mp (by omega)
          rw [x] at y
          exact absurd y (by decide)
      · rw [wdsW_len] at q1
        rw [wdsW_get q1] at q3
        have x := (wx_iff (t := t) (a := a) (b := b) (k := 0) WL_nd (by decide) (subW_lt hw q1)).mpr q3
        refine Or.inr (Or.inr (Or.inr (Or.inr (Or.inl ⟨j, q1, ?_, if_neg (by omega), by omega⟩))))
        rw [if_neg (by omega)]; omega
    · by_cases c3 : dgtB (t a.toNat).toInt = true
      · generalize tkB t n a = b
        have ek : tkK w t n a b = if b - a ≤ 4 then 1 else 2 := by unfold tkK; rw [if_neg c1, if_neg c2, if_pos c3]
        have ec : tkC t n a b = if b - a < 5 then 3 else 1 := by unfold tkC; rw [if_neg c1, if_neg c2, if_pos c3]
        rw [ek, ec]
        by_cases c4 : b - a ≤ 4
        · exact Or.inr (Or.inl ⟨if_pos c4, if_pos (by omega)⟩)
        · exact Or.inr (Or.inr (Or.inl ⟨if_neg c4, if_neg (by omega)⟩))
      · generalize tkB t n a = b
        by_cases c4 : sgnB (t a.toNat).toInt = true
        · have ek : tkK w t n a b = (t a.toNat).toInt := by unfold tkK; rw [if_neg c1, if_neg c2, if_neg c3, if_pos c4]
          have ec : tkC t n a b = 4 := by unfold tkC; rw [if_neg c1, if_neg c2, if_neg c3, if_pos c4]
          rw [ek, ec]
          exact Or.inr (Or.inr (Or.inr (Or.inr (Or.inr ⟨sg_rng c4, rfl, rfl⟩))))
        · have ek : tkK w t n a b = 2 := by unfold tkK; rw [if_neg c1, if_neg c2, if_neg c3, if_neg c4]
          have ec : tkC t n a b = 1 := by unfold tkC; rw [if_neg c1, if_neg c2, if_neg c3, if_neg c4]
          rw [ek, ec]
          exact Or.inr (Or.inr (Or.inl ⟨rfl, rfl⟩))
theorem kd_end (hw : 1 ≤ w ∧ w ≤ 5) : kdOf w t n p = 0 ↔ ctOf t n p = 0 := by
  rcases kd_cases (t := t) (n := n) (p := p) hw with ⟨q1, q2⟩ | ⟨q1, q2⟩ | ⟨q1, q2⟩ | ⟨q1, q2, -⟩ | ⟨j, -, q1, q2, -⟩ | ⟨q1, q2, -⟩ <;> omega
theorem kd_num (hw : 1 ≤ w ∧ w ≤ 5) : kdOf w t n p = 1 ↔ ctOf t n p = 3 := by
  rcases kd_cases (t := t) (n := n) (p := p) hw with ⟨q1, q2⟩ | ⟨q1, q2⟩ | ⟨q1, q2⟩ | ⟨q1, q2, -⟩ | ⟨j, -, q1, q2, -⟩ | ⟨q1, q2, -⟩ <;> omega
theorem kd_mark (hw : 1 ≤ w ∧ w ≤ 5) (hc : 40 ≤ c ∧ c ≤ 62) : kdOf w t n p = c ↔ ctOf t n p = 4 ∧ sgOf t n p = c := by
  rcases kd_cases (t := t) (n := n) (p := p) hw with ⟨q1, q2⟩ | ⟨q1, q2⟩ | ⟨q1, q2⟩ | ⟨q1, q2, -⟩ | ⟨j, -, q1, q2, -⟩ | ⟨q1, q2, q3⟩ <;> omega
theorem kd_word {j : Nat} (hw : 1 ≤ w ∧ w ≤ 5) (hj : j < (subW w).length) (hd : due = 256 + (j : Int)) (hg : g = ((subW w).getD j 0 : Int)) : kdOf w t n p = due ↔ ctOf t n p = 2 ∧ wdOf t n p = g := by
  subst hd hg
  rcases kd_cases (t := t) (n := n) (p := p) hw with ⟨q1, q2⟩ | ⟨q1, q2⟩ | ⟨q1, q2⟩ | ⟨q1, q2, q3⟩ | ⟨i, q0, q1, q2, q3⟩ | ⟨q1, q2, q3⟩
  · omega
  · omega
  · omega
  · constructor
    · intro z; omega
    · intro z; exact absurd z.2 (q3 j hj)
  · constructor
    · intro z
      have e : i = j := by omega
      subst e
      exact ⟨q2, q3⟩
    · intro z
      have e : i = j := by
        refine ndW_at (wds_at hw).2.2.2.1 (by rw [wdsW_len]; exact q0) (by rw [wdsW_len]; exact hj) ?_
        rw [wdsW_get q0, wdsW_get hj, show (subW w).getD i 0 = (subW w).getD j 0 from by have y := z.2; omega]
      rw [q1, e]
  · omega
theorem num_eq (hw : 1 ≤ w ∧ w ≤ 5) : numP w t n lo hi = numR t n lo hi := by
  funext p
  unfold numP numR
  by_cases q : ctOf t n p = 3
  · rw [if_pos ((kd_num hw).mpr q), if_pos q]
  · rw [if_neg (fun z => q ((kd_num hw).mp z)), if_neg q]
theorem mark_eq (hw : 1 ≤ w ∧ w ≤ 5) (hc : 40 ≤ c ∧ c ≤ 62) : passP w t n c = markR t n c := by
  funext p
  unfold passP markR
  by_cases q : ctOf t n p = 4 ∧ sgOf t n p = c
  · rw [if_pos ((kd_mark hw hc).mpr q), if_pos q]
  · rw [if_neg (fun z => q ((kd_mark hw hc).mp z)), if_neg q]
theorem word_eq {j : Nat} (hw : 1 ≤ w ∧ w ≤ 5) (hj : j < (subW w).length) (hd : due = 256 + (j : Int)) (hg : g = ((subW w).getD j 0 : Int)) : passP w t n due = wordR t n g := by
  funext p
  unfold passP wordR
  by_cases q : ctOf t n p = 2 ∧ wdOf t n p = g
  · rw [if_pos ((kd_word hw hj hd hg).mpr q), if_pos q]
  · rw [if_neg (fun z => q ((kd_word hw hj hd hg).mp z)), if_neg q]
theorem opt_eq {j : Nat} (hw : 1 ≤ w ∧ w ≤ 5) (hj : j < (subW w).length) (hd : due = 256 + (j : Int)) (hg : g = ((subW w).getD j 0 : Int)) : optP w t n due lo hi = optR t n g lo hi := by
  funext p
  unfold optP optR
  rw [num_eq hw]
  by_cases q : ctOf t n p = 2 ∧ wdOf t n p = g
  · rw [if_pos ((kd_word hw hj hd hg).mpr q), if_pos q]
  · rw [if_neg (fun z => q ((kd_word hw hj hd hg).mp z)), if_neg q]
theorem rng_eq : rngP 4 t n 257 260 = rngR t n 21 24 := by
  have hw : 1 ≤ 4 ∧ 4 ≤ 5 := by decide
  have l : (subW 4).length = 9 := by decide
  have k : ∀ (j : Nat) (g : Int) (p : Int), j < 9 → g = ((subW 4).getD j 0 : Int) → (kdOf 4 t n p = 256 + (j : Int) ↔ ctOf t n p = 2 ∧ wdOf t n p = g) := fun j g p hj hg => kd_word hw (by rw [l]; exact hj) rfl hg
  funext p
  have k1 := k 1 21 p (by decide) (by decide)
  have k2 := k 2 22 p (by decide) (by decide)
  have k3 := k 3 23 p (by decide) (by decide)
  have k4 := k 4 24 p (by decide) (by decide)
  unfold rngP rngR
  by_cases q : ctOf t n p = 2 ∧ (21 ≤ wdOf t n p ∧ wdOf t n p ≤ 24)
  · rw [if_pos (by omega), if_pos q]
  · rw [if_neg (by omega), if_neg q]
end KCs
/-- two readings with the same faults -/
def sameE {α β : Type} (a : Except (Int × Int) α) (b : Except (Int × Int) β) : Prop := ∀ e : Int × Int, a = .error e ↔ b = .error e
theorem sameE_ok {α β : Type} {x : α} {y : β} : sameE (.ok x : Except (Int × Int) α) (.ok y : Except (Int × Int) β) := fun e => ⟨fun z => (by cases z), fun z => (by cases z)⟩
theorem sameE_er {α β : Type} {e : Int × Int} : sameE (.error e : Except (Int × Int) α) (.error e : Except (Int × Int) β) := fun e' => ⟨fun z => (by cases z; rfl), fun z => (by cases z; rfl)⟩
theorem bas {α β γ : Type} (s : Except (Int × Int) α) (f : α → Except (Int × Int) β) (g : β → Except (Int × Int) γ) : (s.bind f).bind g = s.bind (fun x => (f x).bind g) := by cases s <;> rfl
theorem snb {β : Type} (s : Except (Int × Int) (Int × Int)) (f : Int → Except (Int × Int) β) : (sndE s).bind f = s.bind (fun x => f x.2) := by cases s <;> rfl
section EQs
variable {t : Nat → Int32} {n p h : Int}
theorem okb {α β : Type} (x : α) (f : α → Except (Int × Int) β) : (Except.ok x : Except (Int × Int) α).bind f = f x := rfl
theorem pathR_b : pathR t n h p = (numR t n (0 : Int32).toInt h p).bind (fun x1 => (wordR t n (17 : Int32).toInt x1.2).bind (fun p2 => (numR t n (0 : Int32).toInt h p2).bind (fun x3 => (wordR t n (18 : Int32).toInt x3.2).bind (fun p4 => (numR t n (1 : Int32).toInt (99 : Int32).toInt p4).bind (fun x5 => (optR t n 19 (0 : Int32).toInt (9 : Int32).toInt x5.2).bind (fun p6 => markR t n (59 : Int32).toInt p6)))))) := by
  unfold pathR
  generalize (0 : Int32).toInt = c0
  generalize (17 : Int32).toInt = c17
  generalize (18 : Int32).toInt = c18
  generalize (1 : Int32).toInt = c1
  generalize (99 : Int32).toInt = c99
  generalize (9 : Int32).toInt = c9
  generalize (59 : Int32).toInt = c59
  cases numR t n c0 h p with
  | error e => rfl
  | ok x1 =>
    dsimp only
    rw [okb]
    cases wordR t n c17 x1.2 with
    | error e => rfl
    | ok p2 =>
      dsimp only
      rw [okb]
      cases numR t n c0 h p2 with
      | error e => rfl
      | ok x3 =>
        dsimp only
        rw [okb]
        cases wordR t n c18 x3.2 with
        | error e => rfl
        | ok p4 =>
          dsimp only
          rw [okb]
          cases numR t n c1 c99 p4 with
          | error e => rfl
          | ok x5 =>
            dsimp only
            rw [okb]
            cases optR t n 19 c0 c9 x5.2 with
            | error e => rfl
            | ok p6 =>
              rfl
theorem needR_b : needR t n h p = (rngR t n 21 24 p).bind (fun p0 => (wordR t n (25 : Int32).toInt p0).bind (fun p1 => (numR t n (0 : Int32).toInt h p1).bind (fun x2 => (wordR t n (26 : Int32).toInt x2.2).bind (fun p3 => (numR t n (0 : Int32).toInt (9999 : Int32).toInt p3).bind (fun x4 => (wordR t n (17 : Int32).toInt x4.2).bind (fun p5 => (numR t n x4.1 (9999 : Int32).toInt p5).bind (fun x6 => (wordR t n (27 : Int32).toInt x6.2).bind (fun p7 => (numR t n (1 : Int32).toInt (99 : Int32).toInt p7).bind (fun x8 => markR t n (59 : Int32).toInt x8.2))))))))) := by
  unfold needR
  generalize (0 : Int32).toInt = c0
  generalize (25 : Int32).toInt = c25
  generalize (26 : Int32).toInt = c26
  generalize (9999 : Int32).toInt = c9999
  generalize (17 : Int32).toInt = c17
  generalize (27 : Int32).toInt = c27
  generalize (1 : Int32).toInt = c1
  generalize (99 : Int32).toInt = c99
  generalize (59 : Int32).toInt = c59
  cases rngR t n 21 24 p with
  | error e => rfl
  | ok p0 =>
    dsimp only
    rw [okb]
    cases wordR t n c25 p0 with
    | error e => rfl
    | ok p1 =>
      dsimp only
      rw [okb]
      cases numR t n c0 h p1 with
      | error e => rfl
      | ok x2 =>
        dsimp only
        rw [okb]
        cases wordR t n c26 x2.2 with
        | error e => rfl
        | ok p3 =>
          dsimp only
          rw [okb]
          cases numR t n c0 c9999 p3 with
          | error e => rfl
          | ok x4 =>
            dsimp only
            rw [okb]
            cases wordR t n c17 x4.2 with
            | error e => rfl
            | ok p5 =>
              dsimp only
              rw [okb]
              cases numR t n x4.1 c9999 p5 with
              | error e => rfl
              | ok x6 =>
                dsimp only
                rw [okb]
                cases wordR t n c27 x6.2 with
                | error e => rfl
                | ok p7 =>
                  dsimp only
                  rw [okb]
                  cases numR t n c1 c99 p7 with
                  | error e => rfl
                  | ok x8 =>
                    rfl
theorem path_eq (hk : kdOf 3 t n p = 256) : pathP 3 t n h p = pathR t n h (nxtI t n p) := by
  have hw : 1 ≤ 3 ∧ 3 ≤ 5 := by decide
  have l : (subW 3).length = 4 := by decide
  have e0 : passP 3 t n (256 : Int32).toInt p = .ok (nxtI t n p) := by
    unfold passP
    rw [if_pos (by rw [hk]; decide +kernel)]
  have e1 : passP 3 t n (257 : Int32).toInt = wordR t n (17 : Int32).toInt := word_eq (j := 1) hw (by rw [l]; decide) (by decide +kernel) (by decide +kernel)
  have e2 : passP 3 t n (258 : Int32).toInt = wordR t n (18 : Int32).toInt := word_eq (j := 2) hw (by rw [l]; decide) (by decide +kernel) (by decide +kernel)
  have e3 : optP 3 t n 259 (0 : Int32).toInt (9 : Int32).toInt = optR t n 19 (0 : Int32).toInt (9 : Int32).toInt := opt_eq (j := 3) hw (by rw [l]; decide) (by decide) (by decide +kernel)
  have e4 : passP 3 t n (59 : Int32).toInt = markR t n (59 : Int32).toInt := mark_eq hw (by decide +kernel)
  have e6 : ∀ lo hi : Int, numP 3 t n lo hi = numR t n lo hi := fun lo hi => num_eq hw
  unfold pathP
  rw [e0, e1, e2, e3, e4, e6, e6, pathR_b]
  generalize (0 : Int32).toInt = c0
  generalize (17 : Int32).toInt = c17
  generalize (18 : Int32).toInt = c18
  generalize (1 : Int32).toInt = c1
  generalize (99 : Int32).toInt = c99
  generalize (9 : Int32).toInt = c9
  generalize (59 : Int32).toInt = c59
  simp only [bas, snb, okb]
theorem need_eq (hk : kdOf 4 t n p = 256) : needP 4 t n h p = needR t n h (nxtI t n p) := by
  have hw : 1 ≤ 4 ∧ 4 ≤ 5 := by decide
  have l : (subW 4).length = 9 := by decide
  have e0 : passP 4 t n (256 : Int32).toInt p = .ok (nxtI t n p) := by
    unfold passP
    rw [if_pos (by rw [hk]; decide +kernel)]
  have e1 : passP 4 t n (261 : Int32).toInt = wordR t n (25 : Int32).toInt := word_eq (j := 5) hw (by rw [l]; decide) (by decide +kernel) (by decide +kernel)
  have e2 : passP 4 t n (262 : Int32).toInt = wordR t n (26 : Int32).toInt := word_eq (j := 6) hw (by rw [l]; decide) (by decide +kernel) (by decide +kernel)
  have e3 : passP 4 t n (263 : Int32).toInt = wordR t n (17 : Int32).toInt := word_eq (j := 7) hw (by rw [l]; decide) (by decide +kernel) (by decide +kernel)
  have e4 : passP 4 t n (264 : Int32).toInt = wordR t n (27 : Int32).toInt := word_eq (j := 8) hw (by rw [l]; decide) (by decide +kernel) (by decide +kernel)
  have e5 : passP 4 t n (59 : Int32).toInt = markR t n (59 : Int32).toInt := mark_eq hw (by decide +kernel)
  have e6 : ∀ lo hi : Int, numP 4 t n lo hi = numR t n lo hi := fun lo hi => num_eq hw
  have e7 : ∀ s : Except (Int × Int) (Int × Int), twoP 4 t n s = s.bind (fun x => (wordR t n (17 : Int32).toInt x.2).bind (numR t n x.1 (9999 : Int32).toInt)) := fun s => by
    unfold twoP
    rw [e3]
    congr 1
    funext x
    rw [e6]
  unfold needP
  rw [e0, e1, e2, e4, e5, rng_eq, e7, e6, e6, e6, needR_b]
  generalize (0 : Int32).toInt = c0
  generalize (25 : Int32).toInt = c25
  generalize (26 : Int32).toInt = c26
  generalize (9999 : Int32).toInt = c9999
  generalize (17 : Int32).toInt = c17
  generalize (27 : Int32).toInt = c27
  generalize (1 : Int32).toInt = c1
  generalize (99 : Int32).toInt = c99
  generalize (59 : Int32).toInt = c59
  simp only [bas, snb, okb]
theorem path_ne (hk : kdOf 3 t n p ≠ 256) : pathP 3 t n h p = .error (1, tkA t n p) := by
  unfold pathP
  have q : passP 3 t n (256 : Int32).toInt p = .error (1, tkA t n p) := by
    unfold passP
    rw [if_neg (fun z => hk (z.trans (by decide +kernel)))]
  rw [q]
  rfl
theorem need_ne (hk : kdOf 4 t n p ≠ 256) : needP 4 t n h p = .error (1, tkA t n p) := by
  unfold needP
  have q : passP 4 t n (256 : Int32).toInt p = .error (1, tkA t n p) := by
    unfold passP
    rw [if_neg (fun z => hk (z.trans (by decide +kernel)))]
  rw [q]
  rfl
theorem rd_rel {w : Nat} {kw g most : Int} {P R : Int → Except (Int × Int) Int} (hE : ∀ p : Int, kdOf w t n p = 0 ↔ ctOf t n p = 0) (hW : ∀ p : Int, kdOf w t n p = kw ↔ ctOf t n p = 2 ∧ wdOf t n p = g) (hP : ∀ p : Int, kdOf w t n p = kw → P p = R (nxtI t n p)) (hN : ∀ p : Int, kdOf w t n p ≠ kw → P p = .error (1, tkA t n p)) : ∀ (j k : Nat) (c p : Int), (most + 1 - c).toNat = j → c ≤ most → j ≤ k → sameE (rdP w t n P kw most k c p) (rdR t n R g most j c p)
  | 0, _, c, _, h1, h2, _ => by omega
  | j + 1, 0, _, _, _, _, h3 => by omega
  | j + 1, k + 1, c, p, h1, h2, h3 => by
    have ih := rd_rel (most := most) hE hW hP hN j k (c + 1)
    show sameE (if kdOf w t n p = 0 then .ok p else if most ≤ c ∧ kdOf w t n p = kw then .error (3, tkA t n p) else (P p).bind (rdP w t n P kw most k (c + 1))) (if ctOf t n p = 2 ∧ wdOf t n p = g then (if c = most then .error (3, tkA t n p) else match R (nxtI t n p) with
      | .error e => .error e
      | .ok p' => rdR t n R g most j (c + 1) p') else if ctOf t n p = 0 then .ok c else .error (1, tkA t n p))
    by_cases c0 : ctOf t n p = 0
    · rw [if_pos ((hE p).mpr c0), if_neg (fun z => by have y := z.1; omega), if_pos c0]
      exact sameE_ok
    · rw [if_neg (fun z => c0 ((hE p).mp z))]
      by_cases cw : ctOf t n p = 2 ∧ wdOf t n p = g
      · have kw' := (hW p).mpr cw
        rw [if_pos cw]
        by_cases cm : c = most
        · rw [if_pos ⟨by omega, kw'⟩, if_pos cm]
          exact sameE_er
        · rw [if_neg (fun z => by have y := z.1; omega), if_neg cm, hP p kw']
          cases R (nxtI t n p) with
          | error e => exact sameE_er
          | ok p' => exact ih p' (by omega) (by omega) (by omega)
      · have nk : kdOf w t n p ≠ kw := fun z => cw ((hW p).mp z)
        rw [if_neg (fun z => nk z.2), if_neg cw, if_neg c0, hN p nk]
        exact sameE_er
theorem paths_rel : sameE (rdP 3 t n (pathP 3 t n h) 256 40 401 0 p) (rdR t n (pathR t n h) 16 40 41 0 p) :=
  rd_rel (fun _ => kd_end (by decide)) (fun _ => kd_word (j := 0) (by decide) (by decide) (by decide) (by decide)) (fun _ z => path_eq z) (fun _ z => path_ne z) 41 401 0 p (by decide) (by decide) (by decide)
theorem needs_rel : sameE (rdP 4 t n (needP 4 t n h) 256 10 401 0 p) (rdR t n (needR t n h) 20 10 11 0 p) :=
  rd_rel (fun _ => kd_end (by decide)) (fun _ => kd_word (j := 0) (by decide) (by decide) (by decide) (by decide)) (fun _ z => need_eq z) (fun _ z => need_ne z) 11 401 0 p (by decide) (by decide) (by decide)
theorem it_eq : itP 5 t n h = itR t n h := by
  have hw : 1 ≤ 5 ∧ 5 ≤ 5 := by decide
  have l : (subW 5).length = 3 := by decide
  funext o p
  have k0 : kdOf 5 t n p = 256 ↔ ctOf t n p = 2 ∧ wdOf t n p = 28 := kd_word (j := 0) hw (by rw [l]; decide) (by decide) (by decide)
  have k1 : kdOf 5 t n p = 257 ↔ ctOf t n p = 2 ∧ wdOf t n p = 29 := kd_word (j := 1) hw (by rw [l]; decide) (by decide) (by decide)
  have k2 : kdOf 5 t n p = 258 ↔ ctOf t n p = 2 ∧ wdOf t n p = 30 := kd_word (j := 2) hw (by rw [l]; decide) (by decide) (by decide)
  have k3 : kdOf 5 t n p = 41 ↔ ctOf t n p = 4 ∧ sgOf t n p = 41 := kd_mark hw (by decide)
  have s : ∀ op lo hi c q : Int, 40 ≤ c ∧ c ≤ 62 → seqP 5 t n op lo hi c q = seqR t n op lo hi c q := by
    intro op lo hi c q hc
    unfold seqP seqR
    rw [num_eq hw, mark_eq hw hc]
    cases numR t n lo hi q with
    | error e => rfl
    | ok x =>
      dsimp only
      cases markR t n c x.2 with
      | error e => rfl
      | ok r => rfl
  unfold itP itR
  rw [s 0 _ _ _ _ (by decide +kernel), s 1 _ _ _ _ (by decide +kernel), s 2 _ _ _ _ (by decide +kernel)]
  by_cases c0 : ctOf t n p = 2 ∧ wdOf t n p = 28
  · rw [if_pos (k0.mpr c0), if_pos c0]
  · rw [if_neg (fun z => c0 (k0.mp z)), if_neg c0]
    by_cases c1 : ctOf t n p = 2 ∧ wdOf t n p = 29
    · rw [if_pos (k1.mpr c1), if_pos c1]
    · rw [if_neg (fun z => c1 (k1.mp z)), if_neg c1]
      by_cases c2 : ctOf t n p = 2 ∧ wdOf t n p = 30
      · rw [if_pos (k2.mpr c2), if_pos c2]
      · rw [if_neg (fun z => c2 (k2.mp z)), if_neg c2]
        by_cases c3 : (ctOf t n p = 4 ∧ sgOf t n p = 41) ∧ 0 < o
        · rw [if_pos ⟨k3.mpr c3.1, c3.2⟩, if_pos c3]
        · rw [if_neg (fun z => c3 ⟨k3.mp z.1, z.2⟩), if_neg c3]
theorem round_rel : sameE (roundP 5 t n h p) (roundR t n h p) := by
  have e1 : endP 5 t n = endR t n := by
    funext q
    unfold endP endR
    rw [decide_eq_decide]
    exact kd_end (by decide)
  unfold roundP roundR
  rw [e1, it_eq]
  cases rnG (endR t n) (itR t n h) 401 (0, []) p with
  | error e => exact sameE_er
  | ok y =>
    show sameE (finG t n y) ((opnG t n y).bind (fun y => layR y.1.1 (tkA t n y.2)))
    unfold finG opnG
    by_cases c1 : 0 < y.1.2.length
    · rw [if_pos c1, if_pos c1]; exact sameE_er
    · rw [if_neg c1, if_neg c1]
      show sameE _ (layR y.1.1 (tkA t n y.2))
      unfold layR
      by_cases c2 : 200 < y.1.1
      · rw [if_pos c2, if_pos c2]; exact sameE_er
      · rw [if_neg c2, if_neg c2]; exact sameE_ok
end EQs
