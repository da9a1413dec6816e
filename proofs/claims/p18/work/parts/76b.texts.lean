set_option maxHeartbeats 4000000 in
set_option maxRecDepth 100000 in
theorem tx_all {s : State} {b : Nat} {A : Nat → Prop} (hg : (Jvm.Cond.and given_1 narrow_1).before #[Value.ref b] s = true) (hA : ∀ a : Nat, a < s.heap.size → ¬ A a) : ∃ adK adV : Nat → Nat, vk_S 7 sLen sByt adK adV A s s.heap ∧ ∀ i : Nat, i < 7 → (tmS i).eval #[Value.ref b] s none [] s = some (.ref (adK i)) := by
  have hs := flat_of_before _ hg
  refine vk_Sof (tm := tmS) (fun i hi => ?_) (fun i hi => ?_) (fun i hi => ?_) (fun i hi => ?_) (fun i hi => ?_) (fun i hi j hj => ?_) (fun i j hi hj hij => ?_) hA
  · rcases (show i = 0 ∨ i = 1 ∨ i = 2 ∨ i = 3 ∨ i = 4 ∨ i = 5 ∨ i = 6 by omega) with rfl | rfl | rfl | rfl | rfl | rfl | rfl
    · decide +kernel
    · decide +kernel
    · decide +kernel
    · decide +kernel
    · decide +kernel
    · decide +kernel
    · decide +kernel
  · rcases (show i = 0 ∨ i = 1 ∨ i = 2 ∨ i = 3 ∨ i = 4 ∨ i = 5 ∨ i = 6 by omega) with rfl | rfl | rfl | rfl | rfl | rfl | rfl
    · exact hs (.exactly (.string RX8 15) "java/lang/String") (by decide +kernel)
    · exact hs (.exactly (.string RX8 41) "java/lang/String") (by decide +kernel)
    · exact hs (.exactly (.string RX8 43) "java/lang/String") (by decide +kernel)
    · exact hs (.exactly (.string RX8 45) "java/lang/String") (by decide +kernel)
    · exact hs (.exactly (.string RX8 47) "java/lang/String") (by decide +kernel)
    · exact hs (.exactly (.string RX8 49) "java/lang/String") (by decide +kernel)
    · exact hs (.exactly (.string RX8 71) "java/lang/String") (by decide +kernel)
  · rcases (show i = 0 ∨ i = 1 ∨ i = 2 ∨ i = 3 ∨ i = 4 ∨ i = 5 ∨ i = 6 by omega) with rfl | rfl | rfl | rfl | rfl | rfl | rfl
    · exact hs (.eq (.field (.string RX8 15) "java/lang/String" "coder" "B") (.int 0)) (by decide +kernel)
    · exact hs (.eq (.field (.string RX8 41) "java/lang/String" "coder" "B") (.int 0)) (by decide +kernel)
    · exact hs (.eq (.field (.string RX8 43) "java/lang/String" "coder" "B") (.int 0)) (by decide +kernel)
    · exact hs (.eq (.field (.string RX8 45) "java/lang/String" "coder" "B") (.int 0)) (by decide +kernel)
    · exact hs (.eq (.field (.string RX8 47) "java/lang/String" "coder" "B") (.int 0)) (by decide +kernel)
    · exact hs (.eq (.field (.string RX8 49) "java/lang/String" "coder" "B") (.int 0)) (by decide +kernel)
    · exact hs (.eq (.field (.string RX8 71) "java/lang/String" "coder" "B") (.int 0)) (by decide +kernel)
  · rcases (show i = 0 ∨ i = 1 ∨ i = 2 ∨ i = 3 ∨ i = 4 ∨ i = 5 ∨ i = 6 by omega) with rfl | rfl | rfl | rfl | rfl | rfl | rfl
    · exact hs (.arrayOf (.field (.string RX8 15) "java/lang/String" "value" "[B") .byte) (by decide +kernel)
    · exact hs (.arrayOf (.field (.string RX8 41) "java/lang/String" "value" "[B") .byte) (by decide +kernel)
    · exact hs (.arrayOf (.field (.string RX8 43) "java/lang/String" "value" "[B") .byte) (by decide +kernel)
    · exact hs (.arrayOf (.field (.string RX8 45) "java/lang/String" "value" "[B") .byte) (by decide +kernel)
    · exact hs (.arrayOf (.field (.string RX8 47) "java/lang/String" "value" "[B") .byte) (by decide +kernel)
    · exact hs (.arrayOf (.field (.string RX8 49) "java/lang/String" "value" "[B") .byte) (by decide +kernel)
    · exact hs (.arrayOf (.field (.string RX8 71) "java/lang/String" "value" "[B") .byte) (by decide +kernel)
  · rcases (show i = 0 ∨ i = 1 ∨ i = 2 ∨ i = 3 ∨ i = 4 ∨ i = 5 ∨ i = 6 by omega) with rfl | rfl | rfl | rfl | rfl | rfl | rfl
    · exact hs (.eq (.length (.field (.string RX8 15) "java/lang/String" "value" "[B")) (.int 0)) (by decide +kernel)
    · exact hs (.eq (.length (.field (.string RX8 41) "java/lang/String" "value" "[B")) (.int 75)) (by decide +kernel)
    · exact hs (.eq (.length (.field (.string RX8 43) "java/lang/String" "value" "[B")) (.int 67)) (by decide +kernel)
    · exact hs (.eq (.length (.field (.string RX8 45) "java/lang/String" "value" "[B")) (.int 16)) (by decide +kernel)
    · exact hs (.eq (.length (.field (.string RX8 47) "java/lang/String" "value" "[B")) (.int 43)) (by decide +kernel)
    · exact hs (.eq (.length (.field (.string RX8 49) "java/lang/String" "value" "[B")) (.int 13)) (by decide +kernel)
    · exact hs (.eq (.length (.field (.string RX8 71) "java/lang/String" "value" "[B")) (.int 10)) (by decide +kernel)
  · rcases (show i = 0 ∨ i = 1 ∨ i = 2 ∨ i = 3 ∨ i = 4 ∨ i = 5 ∨ i = 6 by omega) with rfl | rfl | rfl | rfl | rfl | rfl | rfl
    · exact absurd hj (Nat.not_lt_zero j)
    · exact tx_1 hg j hj
    · exact tx_2 hg j hj
    · exact tx_3 hg j hj
    · exact tx_4 hg j hj
    · exact tx_5 hg j hj
    · exact tx_6 hg j hj
  · rcases (show i = 0 ∨ i = 1 ∨ i = 2 ∨ i = 3 ∨ i = 4 ∨ i = 5 ∨ i = 6 by omega) with rfl | rfl | rfl | rfl | rfl | rfl | rfl
    · rcases (show j = 0 ∨ j = 1 ∨ j = 2 ∨ j = 3 ∨ j = 4 ∨ j = 5 ∨ j = 6 by omega) with rfl | rfl | rfl | rfl | rfl | rfl | rfl
      · exact absurd rfl hij
      · exact Or.inl (hs (.not (.eq (.string RX8 15) (.string RX8 41))) (by decide +kernel))
      · exact Or.inl (hs (.not (.eq (.string RX8 15) (.string RX8 43))) (by decide +kernel))
      · exact Or.inl (hs (.not (.eq (.string RX8 15) (.string RX8 45))) (by decide +kernel))
      · exact Or.inl (hs (.not (.eq (.string RX8 15) (.string RX8 47))) (by decide +kernel))
      · exact Or.inl (hs (.not (.eq (.string RX8 15) (.string RX8 49))) (by decide +kernel))
      · exact Or.inl (hs (.not (.eq (.string RX8 15) (.string RX8 71))) (by decide +kernel))
    · rcases (show j = 0 ∨ j = 1 ∨ j = 2 ∨ j = 3 ∨ j = 4 ∨ j = 5 ∨ j = 6 by omega) with rfl | rfl | rfl | rfl | rfl | rfl | rfl
      · exact Or.inr (hs (.not (.eq (.string RX8 15) (.string RX8 41))) (by decide +kernel))
      · exact absurd rfl hij
      · exact Or.inl (hs (.not (.eq (.string RX8 41) (.string RX8 43))) (by decide +kernel))
      · exact Or.inl (hs (.not (.eq (.string RX8 41) (.string RX8 45))) (by decide +kernel))
      · exact Or.inl (hs (.not (.eq (.string RX8 41) (.string RX8 47))) (by decide +kernel))
      · exact Or.inl (hs (.not (.eq (.string RX8 41) (.string RX8 49))) (by decide +kernel))
      · exact Or.inl (hs (.not (.eq (.string RX8 41) (.string RX8 71))) (by decide +kernel))
    · rcases (show j = 0 ∨ j = 1 ∨ j = 2 ∨ j = 3 ∨ j = 4 ∨ j = 5 ∨ j = 6 by omega) with rfl | rfl | rfl | rfl | rfl | rfl | rfl
      · exact Or.inr (hs (.not (.eq (.string RX8 15) (.string RX8 43))) (by decide +kernel))
      · exact Or.inr (hs (.not (.eq (.string RX8 41) (.string RX8 43))) (by decide +kernel))
      · exact absurd rfl hij
      · exact Or.inl (hs (.not (.eq (.string RX8 43) (.string RX8 45))) (by decide +kernel))
      · exact Or.inl (hs (.not (.eq (.string RX8 43) (.string RX8 47))) (by decide +kernel))
      · exact Or.inl (hs (.not (.eq (.string RX8 43) (.string RX8 49))) (by decide +kernel))
      · exact Or.inl (hs (.not (.eq (.string RX8 43) (.string RX8 71))) (by decide +kernel))
    · rcases (show j = 0 ∨ j = 1 ∨ j = 2 ∨ j = 3 ∨ j = 4 ∨ j = 5 ∨ j = 6 by omega) with rfl | rfl | rfl | rfl | rfl | rfl | rfl
      · exact Or.inr (hs (.not (.eq (.string RX8 15) (.string RX8 45))) (by decide +kernel))
      · exact Or.inr (hs (.not (.eq (.string RX8 41) (.string RX8 45))) (by decide +kernel))
      · exact Or.inr (hs (.not (.eq (.string RX8 43) (.string RX8 45))) (by decide +kernel))
      · exact absurd rfl hij
      · exact Or.inl (hs (.not (.eq (.string RX8 45) (.string RX8 47))) (by decide +kernel))
      · exact Or.inl (hs (.not (.eq (.string RX8 45) (.string RX8 49))) (by decide +kernel))
      · exact Or.inl (hs (.not (.eq (.string RX8 45) (.string RX8 71))) (by decide +kernel))
    · rcases (show j = 0 ∨ j = 1 ∨ j = 2 ∨ j = 3 ∨ j = 4 ∨ j = 5 ∨ j = 6 by omega) with rfl | rfl | rfl | rfl | rfl | rfl | rfl
      · exact Or.inr (hs (.not (.eq (.string RX8 15) (.string RX8 47))) (by decide +kernel))
      · exact Or.inr (hs (.not (.eq (.string RX8 41) (.string RX8 47))) (by decide +kernel))
      · exact Or.inr (hs (.not (.eq (.string RX8 43) (.string RX8 47))) (by decide +kernel))
      · exact Or.inr (hs (.not (.eq (.string RX8 45) (.string RX8 47))) (by decide +kernel))
      · exact absurd rfl hij
      · exact Or.inl (hs (.not (.eq (.string RX8 47) (.string RX8 49))) (by decide +kernel))
      · exact Or.inl (hs (.not (.eq (.string RX8 47) (.string RX8 71))) (by decide +kernel))
    · rcases (show j = 0 ∨ j = 1 ∨ j = 2 ∨ j = 3 ∨ j = 4 ∨ j = 5 ∨ j = 6 by omega) with rfl | rfl | rfl | rfl | rfl | rfl | rfl
      · exact Or.inr (hs (.not (.eq (.string RX8 15) (.string RX8 49))) (by decide +kernel))
      · exact Or.inr (hs (.not (.eq (.string RX8 41) (.string RX8 49))) (by decide +kernel))
      · exact Or.inr (hs (.not (.eq (.string RX8 43) (.string RX8 49))) (by decide +kernel))
      · exact Or.inr (hs (.not (.eq (.string RX8 45) (.string RX8 49))) (by decide +kernel))
      · exact Or.inr (hs (.not (.eq (.string RX8 47) (.string RX8 49))) (by decide +kernel))
      · exact absurd rfl hij
      · exact Or.inl (hs (.not (.eq (.string RX8 49) (.string RX8 71))) (by decide +kernel))
    · rcases (show j = 0 ∨ j = 1 ∨ j = 2 ∨ j = 3 ∨ j = 4 ∨ j = 5 ∨ j = 6 by omega) with rfl | rfl | rfl | rfl | rfl | rfl | rfl
      · exact Or.inr (hs (.not (.eq (.string RX8 15) (.string RX8 71))) (by decide +kernel))
      · exact Or.inr (hs (.not (.eq (.string RX8 41) (.string RX8 71))) (by decide +kernel))
      · exact Or.inr (hs (.not (.eq (.string RX8 43) (.string RX8 71))) (by decide +kernel))
      · exact Or.inr (hs (.not (.eq (.string RX8 45) (.string RX8 71))) (by decide +kernel))
      · exact Or.inr (hs (.not (.eq (.string RX8 47) (.string RX8 71))) (by decide +kernel))
      · exact Or.inr (hs (.not (.eq (.string RX8 49) (.string RX8 71))) (by decide +kernel))
      · exact absurd rfl hij
