/-! the texts of Tape's constants, where they are; orders of ints; rows of zeros; rows of references -/
def xW (qs : Nat → Nat) : State → Prop := fun U => vk_R RX8 41 "turn when or and not house owed waited snow oil season people needs far bid" (qs 0) U ∧ vk_R RX8 43 "burn when or and not house owed waited snow oil season people needs" (qs 1) U ∧ vk_R RX8 45 "path to in until" (qs 2) U ∧ vk_R RX8 47 "need birth read mend bride at from to worth" (qs 3) U ∧ vk_R RX8 49 "go stay again" (qs 4) U ∧ vk_R RX8 15 "" (qs 5) U
theorem xW_5 {qs : Nat → Nat} {U : State} (h : xW qs U) : vk_R RX8 15 "" (qs 5) U := h.2.2.2.2.2
theorem xW_b {qs : Nat → Nat} : XB (xW qs) := fun _ U _ _ h => ⟨vk_R.same (u := U) rfl h.1, vk_R.same (u := U) rfl h.2.1, vk_R.same (u := U) rfl h.2.2.1, vk_R.same (u := U) rfl h.2.2.2.1, vk_R.same (u := U) rfl h.2.2.2.2.1, vk_R.same (u := U) rfl h.2.2.2.2.2⟩
theorem xW_w {qs : Nat → Nat} {s : State} (h : xW qs s) {U : State} (hW : s.WarmedH U.vm) : xW qs U := ⟨vk_R.warm hW h.1, vk_R.warm hW h.2.1, vk_R.warm hW h.2.2.1, vk_R.warm hW h.2.2.2.1, vk_R.warm hW h.2.2.2.2.1, vk_R.warm hW h.2.2.2.2.2⟩
theorem xW_at {qs : Nat → Nat} {s : State} {H : Heap} (h : xW qs s) : ∀ U : State, U.heap = H → s.WarmedH U.vm → xW qs U := fun _ _ hW => xW_w h hW
theorem f_lt {x y : Int32} (h : x < y) : x.toInt < y.toInt := Int32.lt_iff_toInt_lt.mp h
theorem f_le {x y : Int32} (h : x ≤ y) : x.toInt ≤ y.toInt := Int32.le_iff_toInt_le.mp h
theorem f_nlt {x y : Int32} (h : ¬ x < y) : y.toInt ≤ x.toInt := by
  rw [Int32.lt_iff_toInt_lt] at h; omega
theorem f_nle {x y : Int32} (h : ¬ x ≤ y) : y.toInt < x.toInt := by
  rw [Int32.le_iff_toInt_le] at h; omega
theorem f_eq {x y : Int32} (h : x = y) : x.toInt = y.toInt := by rw [h]
theorem b_lt {x y : Int32} (h : x.toInt < y.toInt) : x < y := Int32.lt_iff_toInt_lt.mpr h
theorem b_le {x y : Int32} (h : x.toInt ≤ y.toInt) : x ≤ y := Int32.le_iff_toInt_le.mpr h
theorem b_nlt {x y : Int32} (h : y.toInt ≤ x.toInt) : ¬ x < y := by
  rw [Int32.lt_iff_toInt_lt]; omega
theorem b_nle {x y : Int32} (h : y.toInt < x.toInt) : ¬ x ≤ y := by
  rw [Int32.le_iff_toInt_le]; omega
section XR2
variable {p : Program} {l : Launch} {e : Env} {R : Room} {s : State} {m : MethodId} {args : Array Value} {below : List Frame} {meth : Method} {c : Code} {H : Heap} {locs : List Loc} {cells slots : Nat} {Q : State → Prop}
variable {cc : ByteArray} {pc : Nat} {ls : Array Slot} {rest : List Value} {D : va_G} {A : Nat → Prop} {a nL : Nat} {cI cJ cN : ClassId} {ws : va_W} {H0 : Heap} {own : String}
theorem x_newQ {C : String} {index : Nat} (E : EN p c cc nL s args own m D cI cJ) (hw : WD D A H0 ws H locs) (hcl : Cond.classLink own index C ∈ GW) (hov : va_AO C s) {n : Int32} {N' k1 n1 : Nat} (hn : ¬ n < 0) (hN : n.toNatClampNeg = N') (hby : N' * 4 ≤ 536870912) (hcc : cells + 1 ≤ R.cells) (hss : slots + N' ≤ R.slots) (hk1 : cells + 1 ≤ k1) (hn1 : slots + N' ≤ n1) (hdg : decode cc pc = .ok (.anewarray index, 3))
    (kk : ∀ (q : Nat) (cN : ClassId) (H1 : Heap), va_K D vwCl [(cI, .int), (cJ, .long), (cN, .object C)] s → WD D A H0 (ws ++ [(q, .inl (cN, N', .inr (.inr (.inr (.inr (fun _ => none))))))]) H1 locs → W p l e R s m args below meth c H1 locs k1 n1 Q (F0 m (pc + 3) ls (.ref q :: rest))) : W p l e R s m args below meth c H locs cells slots Q (F0 m pc ls (.int n :: rest)) :=
  va_newq E.1 E.2.1 E.2.2.2.1 (E.2.2.2.2.1 _ hcl) hov E.2.2.2.2.2 hw.1 hw.2.1 hw.2.2.1 hw.2.2.2 hn hN hby hcc hss hdg (fun q cN H1 hK h1 h2 h3 => W.widen hk1 hn1 (kk q cN H1 hK ⟨h1, h2, h3, hw.2.2.2⟩))
end XR2
