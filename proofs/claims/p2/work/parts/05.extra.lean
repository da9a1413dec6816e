/-! the texts of Tape's constants, where they are; orders of ints; rows of zeros; rows of references -/
def xW (qs : Nat → Nat) : State → Prop := fun U => vk_R RX8 41 "turn when or and not house owed waited snow oil season people needs far bid" (qs 0) U ∧ vk_R RX8 43 "burn when or and not house owed waited snow oil season people needs" (qs 1) U ∧ vk_R RX8 45 "path to in until" (qs 2) U ∧ vk_R RX8 47 "need birth read mend bride at from to worth" (qs 3) U ∧ vk_R RX8 49 "go stay again" (qs 4) U ∧ vk_R RX8 15 "" (qs 5) U
theorem xW_0 {qs : Nat → Nat} {U : State} (h : xW qs U) : vk_R RX8 41 "turn when or and not house owed waited snow oil season people needs far bid" (qs 0) U := h.1
theorem xW_1 {qs : Nat → Nat} {U : State} (h : xW qs U) : vk_R RX8 43 "burn when or and not house owed waited snow oil season people needs" (qs 1) U := h.2.1
theorem xW_2 {qs : Nat → Nat} {U : State} (h : xW qs U) : vk_R RX8 45 "path to in until" (qs 2) U := h.2.2.1
theorem xW_3 {qs : Nat → Nat} {U : State} (h : xW qs U) : vk_R RX8 47 "need birth read mend bride at from to worth" (qs 3) U := h.2.2.2.1
theorem xW_4 {qs : Nat → Nat} {U : State} (h : xW qs U) : vk_R RX8 49 "go stay again" (qs 4) U := h.2.2.2.2.1
theorem xW_5 {qs : Nat → Nat} {U : State} (h : xW qs U) : vk_R RX8 15 "" (qs 5) U := h.2.2.2.2.2
theorem xW_b {qs : Nat → Nat} : XB (xW qs) := fun _ U _ _ h => ⟨vk_R.same (u := U) rfl h.1, vk_R.same (u := U) rfl h.2.1, vk_R.same (u := U) rfl h.2.2.1, vk_R.same (u := U) rfl h.2.2.2.1, vk_R.same (u := U) rfl h.2.2.2.2.1, vk_R.same (u := U) rfl h.2.2.2.2.2⟩
theorem xW_w {qs : Nat → Nat} {s : State} (h : xW qs s) {U : State} (hW : s.WarmedH U.vm) : xW qs U := ⟨vk_R.warm hW h.1, vk_R.warm hW h.2.1, vk_R.warm hW h.2.2.1, vk_R.warm hW h.2.2.2.1, vk_R.warm hW h.2.2.2.2.1, vk_R.warm hW h.2.2.2.2.2⟩
theorem xW_at {qs : Nat → Nat} {s : State} {H : Heap} (h : xW qs s) : ∀ U : State, U.heap = H → s.WarmedH U.vm → xW qs U := fun _ _ hW => xW_w h hW
def xL (qs : Nat → Nat) : State → Prop := fun U => xW qs U ∧ va_AO RX4 U
theorem xL_b {qs : Nat → Nat} : XB (xL qs) := fun a U g mk h => ⟨xW_b a U g mk h.1, va_AO.moved (u := U) (U := U.calling g mk a) (Vm.Alike.refl U.vm) h.2⟩
theorem xL_at {qs : Nat → Nat} {s : State} {H : Heap} (h : xL qs s) : ∀ U : State, U.heap = H → s.WarmedH U.vm → xL qs U := fun _ _ hW => ⟨xW_w h.1 hW, va_AO.moved hW.alike h.2⟩
theorem f_lt {x y : Int32} (h : x < y) : x.toInt < y.toInt := Int32.lt_iff_toInt_lt.mp h
theorem f_le {x y : Int32} (h : x ≤ y) : x.toInt ≤ y.toInt := Int32.le_iff_toInt_le.mp h
theorem f_nlt {x y : Int32} (h : ¬ x < y) : y.toInt ≤ x.toInt := by
  rw [Int32.lt_iff_toInt_lt] at h; omega
theorem f_nle {x y : Int32} (h : ¬ x ≤ y) : y.toInt < x.toInt := by
  rw [Int32.le_iff_toInt_le] at h; omega
theorem f_eq {x y : Int32} (h : x = y) : x.toInt = y.toInt := by rw [h]
theorem f_dn {p : Prop} (h : ¬ ¬ p) : p := Classical.byContradiction h
theorem f_nne {x y : Int32} (h : ¬ ¬ x = y) : x.toInt = y.toInt := by rw [f_dn h]
theorem b_lt {x y : Int32} (h : x.toInt < y.toInt) : x < y := Int32.lt_iff_toInt_lt.mpr h
theorem b_le {x y : Int32} (h : x.toInt ≤ y.toInt) : x ≤ y := Int32.le_iff_toInt_le.mpr h
theorem b_nlt {x y : Int32} (h : y.toInt ≤ x.toInt) : ¬ x < y := by
  rw [Int32.lt_iff_toInt_lt]; omega
theorem b_nle {x y : Int32} (h : y.toInt < x.toInt) : ¬ x ≤ y := by
  rw [Int32.le_iff_toInt_le]; omega
theorem b_ne {x y : Int32} (h : x.toInt ≠ y.toInt) : ¬ x = y := fun e => h (by rw [e])
theorem z_upd (k : Nat) : upd (fun _ => (0 : Int32)) k 0 = fun _ => 0 := by
  funext j
  by_cases h : j = k
  · rw [h, pk_us]
  · rw [pk_un h]
theorem and_m1 {x : Int32} : x &&& -1 = x := by
  apply Int32.toBitVec_inj.mp
  rw [Int32.toBitVec_and]
  exact BitVec.and_allOnes
theorem dec_1 (x : Int32) : x + Int32.ofInt (-1) = x - 1 := by
  rw [Int32.sub_eq_add_neg]; rfl
theorem tab_lo {x : Int32} {hi : Int} (h : x < 0) : x.toInt < 0 ∨ hi < x.toInt := Or.inl (by
  have h1 := f_lt h
  have h2 : (0 : Int32).toInt = 0 := by decide +kernel
  omega)
theorem tab_hi {x c : Int32} {hi : Int} (hc : c.toInt = hi) (h : c < x) : x.toInt < 0 ∨ hi < x.toInt := Or.inr (by
  have h1 := f_lt h
  omega)
theorem nat_of {x lo hi : Int32} {a b : Nat} (ha : lo = nI a) (hb : hi = nI b) (hb2 : a < 2 ^ 31 ∧ b < 2 ^ 31) (h1 : ¬ x < lo) (h2 : ¬ hi < x) : ∃ n : Nat, a ≤ n ∧ n ≤ b ∧ x = nI n := by
  have e1 := f_nlt h1
  have e2 := f_nlt h2
  rw [ha, nI_toInt hb2.1] at e1
  rw [hb, nI_toInt hb2.2] at e2
  have h0 : ¬ x < 0 := b_nlt (by
    have h3 : (0 : Int32).toInt = 0 := by decide +kernel
    omega)
  obtain ⟨n, hn, rfl⟩ := nI_of h0
  rw [nI_toInt hn] at e1 e2
  exact ⟨n, by omega, by omega, rfl⟩
theorem sw (n : Nat) (hn : n < 2 ^ 31) (x : Int32) : (∃ k : Nat, k < n ∧ x = nI k) ∨ x < 0 ∨ nI n ≤ x := by
  by_cases h0 : x < 0
  · exact Or.inr (Or.inl h0)
  · obtain ⟨k, hk, rfl⟩ := nI_of h0
    by_cases h : k < n
    · exact Or.inl ⟨k, h, rfl⟩
    · exact Or.inr (Or.inr (nI_le (by omega) hk))
theorem sw5 (x : Int32) : x = 0 ∨ x = 1 ∨ x = 2 ∨ x = 3 ∨ x = 4 ∨ x < 0 ∨ 4 < x := by
  rcases sw 5 (by decide) x with ⟨k, hk, rfl⟩ | h | h
  · rcases (show k = 0 ∨ k = 1 ∨ k = 2 ∨ k = 3 ∨ k = 4 by omega) with rfl | rfl | rfl | rfl | rfl
    · exact Or.inl rfl
    · exact Or.inr (Or.inl rfl)
    · exact Or.inr (Or.inr (Or.inl rfl))
    · exact Or.inr (Or.inr (Or.inr (Or.inl rfl)))
    · exact Or.inr (Or.inr (Or.inr (Or.inr (Or.inl rfl))))
  · exact Or.inr (Or.inr (Or.inr (Or.inr (Or.inr (Or.inl h)))))
  · exact Or.inr (Or.inr (Or.inr (Or.inr (Or.inr (Or.inr (b_lt (by
      have h1 := f_le h
      rw [nI_toInt (by decide)] at h1
      have h2 : (4 : Int32).toInt = 4 := by decide +kernel
      omega)))))))
theorem sw11 (x : Int32) : x = 0 ∨ x = 1 ∨ x = 2 ∨ x = 3 ∨ x = 4 ∨ x = 5 ∨ x = 6 ∨ x = 7 ∨ x = 8 ∨ x = 9 ∨ x = 10 ∨ x < 0 ∨ 10 < x := by
  rcases sw 11 (by decide) x with ⟨k, hk, rfl⟩ | h | h
  · rcases (show k = 0 ∨ k = 1 ∨ k = 2 ∨ k = 3 ∨ k = 4 ∨ k = 5 ∨ k = 6 ∨ k = 7 ∨ k = 8 ∨ k = 9 ∨ k = 10 by omega) with rfl | rfl | rfl | rfl | rfl | rfl | rfl | rfl | rfl | rfl | rfl
    · exact Or.inl rfl
    · exact Or.inr (Or.inl rfl)
    · exact Or.inr (Or.inr (Or.inl rfl))
    · exact Or.inr (Or.inr (Or.inr (Or.inl rfl)))
    · exact Or.inr (Or.inr (Or.inr (Or.inr (Or.inl rfl))))
    · exact Or.inr (Or.inr (Or.inr (Or.inr (Or.inr (Or.inl rfl)))))
    · exact Or.inr (Or.inr (Or.inr (Or.inr (Or.inr (Or.inr (Or.inl rfl))))))
    · exact Or.inr (Or.inr (Or.inr (Or.inr (Or.inr (Or.inr (Or.inr (Or.inl rfl)))))))
    · exact Or.inr (Or.inr (Or.inr (Or.inr (Or.inr (Or.inr (Or.inr (Or.inr (Or.inl rfl))))))))
    · exact Or.inr (Or.inr (Or.inr (Or.inr (Or.inr (Or.inr (Or.inr (Or.inr (Or.inr (Or.inl rfl)))))))))
    · exact Or.inr (Or.inr (Or.inr (Or.inr (Or.inr (Or.inr (Or.inr (Or.inr (Or.inr (Or.inr (Or.inl rfl))))))))))
  · exact Or.inr (Or.inr (Or.inr (Or.inr (Or.inr (Or.inr (Or.inr (Or.inr (Or.inr (Or.inr (Or.inr (Or.inl h)))))))))))
  · exact Or.inr (Or.inr (Or.inr (Or.inr (Or.inr (Or.inr (Or.inr (Or.inr (Or.inr (Or.inr (Or.inr (Or.inr (b_lt (by
      have h1 := f_le h
      rw [nI_toInt (by decide)] at h1
      have h2 : (10 : Int32).toInt = 10 := by decide +kernel
      omega)))))))))))))
theorem sw25 (x : Int32) : x = 0 ∨ x = 1 ∨ x = 2 ∨ x = 3 ∨ x = 4 ∨ x = 5 ∨ x = 6 ∨ x = 7 ∨ x = 8 ∨ x = 9 ∨ x = 10 ∨ x = 11 ∨ x = 12 ∨ x = 13 ∨ x = 14 ∨ x = 15 ∨ x = 16 ∨ x = 17 ∨ x = 18 ∨ x = 19 ∨ x = 20 ∨ x = 21 ∨ x = 22 ∨ x = 23 ∨ x = 24 ∨ x < 0 ∨ 24 < x := by
  rcases sw 25 (by decide) x with ⟨k, hk, rfl⟩ | h | h
  · rcases (show k = 0 ∨ k = 1 ∨ k = 2 ∨ k = 3 ∨ k = 4 ∨ k = 5 ∨ k = 6 ∨ k = 7 ∨ k = 8 ∨ k = 9 ∨ k = 10 ∨ k = 11 ∨ k = 12 ∨ k = 13 ∨ k = 14 ∨ k = 15 ∨ k = 16 ∨ k = 17 ∨ k = 18 ∨ k = 19 ∨ k = 20 ∨ k = 21 ∨ k = 22 ∨ k = 23 ∨ k = 24 by omega) with rfl | rfl | rfl | rfl | rfl | rfl | rfl | rfl | rfl | rfl | rfl | rfl | rfl | rfl | rfl | rfl | rfl | rfl | rfl | rfl | rfl | rfl | rfl | rfl | rfl
    · exact Or.inl rfl
    · exact Or.inr (Or.inl rfl)
    · exact Or.inr (Or.inr (Or.inl rfl))
    · exact Or.inr (Or.inr (Or.inr (Or.inl rfl)))
    · exact Or.inr (Or.inr (Or.inr (Or.inr (Or.inl rfl))))
    · exact Or.inr (Or.inr (Or.inr (Or.inr (Or.inr (Or.inl rfl)))))
    · exact Or.inr (Or.inr (Or.inr (Or.inr (Or.inr (Or.inr (Or.inl rfl))))))
    · exact Or.inr (Or.inr (Or.inr (Or.inr (Or.inr (Or.inr (Or.inr (Or.inl rfl)))))))
    · exact Or.inr (Or.inr (Or.inr (Or.inr (Or.inr (Or.inr (Or.inr (Or.inr (Or.inl rfl))))))))
    · exact Or.inr (Or.inr (Or.inr (Or.inr (Or.inr (Or.inr (Or.inr (Or.inr (Or.inr (Or.inl rfl)))))))))
    · exact Or.inr (Or.inr (Or.inr (Or.inr (Or.inr (Or.inr (Or.inr (Or.inr (Or.inr (Or.inr (Or.inl rfl))))))))))
    · exact Or.inr (Or.inr (Or.inr (Or.inr (Or.inr (Or.inr (Or.inr (Or.inr (Or.inr (Or.inr (Or.inr (Or.inl rfl)))))))))))
    · exact Or.inr (Or.inr (Or.inr (Or.inr (Or.inr (Or.inr (Or.inr (Or.inr (Or.inr (Or.inr (Or.inr (Or.inr (Or.inl rfl))))))))))))
    · exact Or.inr (Or.inr (Or.inr (Or.inr (Or.inr (Or.inr (Or.inr (Or.inr (Or.inr (Or.inr (Or.inr (Or.inr (Or.inr (Or.inl rfl)))))))))))))
    · exact Or.inr (Or.inr (Or.inr (Or.inr (Or.inr (Or.inr (Or.inr (Or.inr (Or.inr (Or.inr (Or.inr (Or.inr (Or.inr (Or.inr (Or.inl rfl))))))))))))))
    · exact Or.inr (Or.inr (Or.inr (Or.inr (Or.inr (Or.inr (Or.inr (Or.inr (Or.inr (Or.inr (Or.inr (Or.inr (Or.inr (Or.inr (Or.inr (Or.inl rfl)))))))))))))))
    · exact Or.inr (Or.inr (Or.inr (Or.inr (Or.inr (Or.inr (Or.inr (Or.inr (Or.inr (Or.inr (Or.inr (Or.inr (Or.inr (Or.inr (Or.inr (Or.inr (Or.inl rfl))))))))))))))))
    · exact Or.inr (Or.inr (Or.inr (Or.inr (Or.inr (Or.inr (Or.inr (Or.inr (Or.inr (Or.inr (Or.inr (Or.inr (Or.inr (Or.inr (Or.inr (Or.inr (Or.inr (Or.inl rfl)))))))))))))))))
    · exact Or.inr (Or.inr (Or.inr (Or.inr (Or.inr (Or.inr (Or.inr (Or.inr (Or.inr (Or.inr (Or.inr (Or.inr (Or.inr (Or.inr (Or.inr (Or.inr (Or.inr (Or.inr (Or.inl rfl))))))))))))))))))
    · exact Or.inr (Or.inr (Or.inr (Or.inr (Or.inr (Or.inr (Or.inr (Or.inr (Or.inr (Or.inr (Or.inr (Or.inr (Or.inr (Or.inr (Or.inr (Or.inr (Or.inr (Or.inr (Or.inr (Or.inl rfl)))))))))))))))))))
    · exact Or.inr (Or.inr (Or.inr (Or.inr (Or.inr (Or.inr (Or.inr (Or.inr (Or.inr (Or.inr (Or.inr (Or.inr (Or.inr (Or.inr (Or.inr (Or.inr (Or.inr (Or.inr (Or.inr (Or.inr (Or.inl rfl))))))))))))))))))))
    · exact Or.inr (Or.inr (Or.inr (Or.inr (Or.inr (Or.inr (Or.inr (Or.inr (Or.inr (Or.inr (Or.inr (Or.inr (Or.inr (Or.inr (Or.inr (Or.inr (Or.inr (Or.inr (Or.inr (Or.inr (Or.inr (Or.inl rfl)))))))))))))))))))))
    · exact Or.inr (Or.inr (Or.inr (Or.inr (Or.inr (Or.inr (Or.inr (Or.inr (Or.inr (Or.inr (Or.inr (Or.inr (Or.inr (Or.inr (Or.inr (Or.inr (Or.inr (Or.inr (Or.inr (Or.inr (Or.inr (Or.inr (Or.inl rfl))))))))))))))))))))))
    · exact Or.inr (Or.inr (Or.inr (Or.inr (Or.inr (Or.inr (Or.inr (Or.inr (Or.inr (Or.inr (Or.inr (Or.inr (Or.inr (Or.inr (Or.inr (Or.inr (Or.inr (Or.inr (Or.inr (Or.inr (Or.inr (Or.inr (Or.inr (Or.inl rfl)))))))))))))))))))))))
    · exact Or.inr (Or.inr (Or.inr (Or.inr (Or.inr (Or.inr (Or.inr (Or.inr (Or.inr (Or.inr (Or.inr (Or.inr (Or.inr (Or.inr (Or.inr (Or.inr (Or.inr (Or.inr (Or.inr (Or.inr (Or.inr (Or.inr (Or.inr (Or.inr (Or.inl rfl))))))))))))))))))))))))
  · exact Or.inr (Or.inr (Or.inr (Or.inr (Or.inr (Or.inr (Or.inr (Or.inr (Or.inr (Or.inr (Or.inr (Or.inr (Or.inr (Or.inr (Or.inr (Or.inr (Or.inr (Or.inr (Or.inr (Or.inr (Or.inr (Or.inr (Or.inr (Or.inr (Or.inr (Or.inl h)))))))))))))))))))))))))
  · exact Or.inr (Or.inr (Or.inr (Or.inr (Or.inr (Or.inr (Or.inr (Or.inr (Or.inr (Or.inr (Or.inr (Or.inr (Or.inr (Or.inr (Or.inr (Or.inr (Or.inr (Or.inr (Or.inr (Or.inr (Or.inr (Or.inr (Or.inr (Or.inr (Or.inr (Or.inr (b_lt (by
      have h1 := f_le h
      rw [nI_toInt (by decide)] at h1
      have h2 : (24 : Int32).toInt = 24 := by decide +kernel
      omega)))))))))))))))))))))))))))
def sp_house (a b c : Int32) : Int32 := if ¬ a < 0 ∧ ¬ 63 < a ∧ ¬ b < 1 ∧ ¬ 20 < b ∧ ¬ c < 0 ∧ ¬ 999 < c then 0 else -1
def sp_set (w v : Int32) : Int32 := if w = 0 then (if ¬ v < 0 ∧ ¬ 9 < v then 1 else 0) else if w = 1 then (if ¬ v < 0 ∧ ¬ 1000 < v then 1 else 0) else if w = 2 then (if ¬ v < 0 ∧ ¬ 99 < v then 1 else 0) else if w = 3 then (if ¬ v < 1 ∧ ¬ 99 < v then 1 else 0) else if w = 4 then (if ¬ v < 1 ∧ ¬ 99 < v then 1 else 0) else 0
def sp_end (n : Int32) : Int32 := if ¬ n < 0 ∧ ¬ 0 < n then 1 else 0
def sp_text (k : Int32) : Int32 := if ¬ k < 0 ∧ ¬ 4 < k then 0 else -1
def sp_fault (w : Int32) : Int32 := if w = 0 then 0 else -1
def sp_mend (h : Int32) : Int32 := if h = -1 then 0 else -1
def sp_rooms (w : Int32) : Int32 := if w = 0 then 0 else -1
def sp_clue (n : Int32) : Int32 := if n = -1 then 0 else -1
def sp_ways (n : Int32) : Int64 := if ¬ n < 1 ∧ ¬ 10 < n then 0 else -1
def sp_been (n k : Int32) : Int32 := if ¬ n < 1 ∧ ¬ 10 < n ∧ ¬ k < 0 ∧ k < n then 0 else -1
def sp_look (w : Int32) : Int32 := if w < 0 ∨ 24 < w then -1000 else if w = 1 then -1 else if w = 23 then 20 else if w = 24 then 30 else if w < 12 ∨ 19 < w then 0 else -1000
section XR2
variable {p : Program} {l : Launch} {e : Env} {R : Room} {s : State} {m : MethodId} {args : Array Value} {below : List Frame} {meth : Method} {c : Code} {H : Heap} {locs : List Loc} {cells slots : Nat} {Q : State → Prop}
variable {cc : ByteArray} {pc : Nat} {ls : Array Slot} {rest : List Value} {D : va_G} {A : Nat → Prop} {a nL : Nat} {cI cJ cN : ClassId} {ws : va_W} {H0 : Heap} {own : String}
theorem x_newQ {C : String} {index : Nat} (E : EN p c cc nL s args own m D cI cJ) (hw : WD D A H0 ws H locs) (hcl : Cond.classLink own index C ∈ GW) (hov : va_AO C s) {n : Int32} {N' k1 n1 : Nat} (hn : ¬ n < 0) (hN : n.toNatClampNeg = N') (hby : N' * 4 ≤ 536870912) (hcc : cells + 1 ≤ R.cells) (hss : slots + N' ≤ R.slots) (hk1 : cells + 1 ≤ k1) (hn1 : slots + N' ≤ n1) (hdg : decode cc pc = .ok (.anewarray index, 3))
    (kk : ∀ (q : Nat) (cN : ClassId) (H1 : Heap), va_K D vwCl [(cI, .int), (cJ, .long), (cN, .object C)] s → WD D A H0 (ws ++ [(q, .inl (cN, N', .inr (.inr (.inr (.inr (fun _ => none))))))]) H1 locs → W p l e R s m args below meth c H1 locs k1 n1 Q (F0 m (pc + 3) ls (.ref q :: rest))) : W p l e R s m args below meth c H locs cells slots Q (F0 m pc ls (.int n :: rest)) :=
  va_newq E.1 E.2.1 E.2.2.2.1 (E.2.2.2.2.1 _ hcl) hov E.2.2.2.2.2 hw.1 hw.2.1 hw.2.2.1 hw.2.2.2 hn hN hby hcc hss hdg (fun q cN H1 hK h1 h2 h3 => W.widen hk1 hn1 (kk q cN H1 hK ⟨h1, h2, h3, hw.2.2.2⟩))
theorem x_astQ {r : vw_C} (E : EN p c cc nL s args own m D cI cJ) (hK : va_K D vwCl [(cI, .int), (cJ, .long), (cN, .object r.1)] s) (hw : WD D A H0 ws H locs) (q0 qk ci : Nat) {n v : Nat} {vs : List Value} {f : Nat → Option Nat} (ha : ws[q0]? = some (a, .inl (cN, n, .inr (.inr (.inr (.inr f)))))) (hv : ws[qk]? = some (v, .inr (ci, vs))) (hc : vwCl[ci]? = some r) {i : Int32} (hin : vp_in i n) {wf : (Nat → Option Nat) → va_W} (hws : ∀ g : Nat → Option Nat, ws.set q0 (a, .inl (cN, n, .inr (.inr (.inr (.inr g))))) = wf g) (hdg : decode cc pc = .ok (.aastore, 1))
    (kk : ∀ (g : Nat → Option Nat) (H1 : Heap) (locs1 : List Loc), WD D A H0 (wf g) H1 locs1 → W p l e R s m args below meth c H1 locs1 cells slots Q (F0 m (pc + 1) ls rest)) : W p l e R s m args below meth c H locs cells slots Q (F0 m pc ls (.ref v :: .int i :: .ref a :: rest)) :=
  va_astq E.1 E.2.1 hK hw.1 hw.2.1 hw.2.2.1 q0 2 qk ci ha rfl hv hc hin hdg (fun H1 locs1 h1 h2 h3 => kk _ H1 locs1 ⟨hws _ ▸ h1, hws _ ▸ h2, h3, hw.2.2.2⟩)
end XR2
