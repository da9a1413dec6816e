/-! THE CLAIM OUT OF ONE WALK OF THE LAW'S BODY. Your part is whole_start (and what it stands on); all else here is the same for every law, but numbers. -/
def R_law : String := "LampRoundLaw"
def lw_P (b : Addr) (xs : List Int32) (args : Array Value) (s : State) : Prop := args = #[.ref b] ∧ s.IntsAt b xs ∧ xs.length ≤ 3072 ∧ (Jvm.Cond.and given_1 narrow_1).before args s = true
def lw_Q (_ : Array Value) (s : State) (o : Outcome) (t : State) : Prop := o = .returned (some (.int 1)) ∧ Framed s o t [] 600000 7302250
def lw_Z (below : List Frame) (a : Array Value) (s : State) : State → Prop := fun t => ∃ o, t.status = .running ∧ Ended t below o ∧ lw_Q a s o t
theorem lw_ret {p : Program} {l : Launch} {e : Env} {s : State} {m : MethodId} {below : List Frame} {meth : Method} {c : Code} {b : Nat} (hx : p.tables.exec = Jvm.exec) (hb : c.code = code) (hr : meth.sig.returnType = ret) (hlocks : meth.locks = false) {pc : Nat} {H : Heap} {ls : Array Slot} (hdg : decode code pc = .ok (.ireturn, 1)) : W p l e room_1 s m #[Value.ref b] below meth c H [] 600000 7302250 (lw_Z below #[Value.ref b] s) (F0 m pc ls [.int 1]) := by
  intro T hT X
  obtain ⟨fs, hret, hrun, hended, hW, hframe⟩ := X.leave (v := some (.int 1)) (hlocks := hlocks) (fun h => by rw [hr] at h; cases h)
  have hmeth' : T.vm.method? m = some meth := X.method'
  refine ⟨T.setFrames fs, ?_, .returned (some (.int 1)), hrun, hended, rfl, ⟨_, rfl⟩, hW, hframe⟩
  jvm_step X.here [X.here.top, hx, hb, hdg, hmeth', hr, ret, narrow_b1]
  (try refine ⟨rfl, ?_⟩); (try refine ⟨rfl, ?_⟩)
  first | (intro acts; rw [hret _ acts rfl rfl rfl]) | rw [hret _ _ rfl rfl rfl]
  exact Steps.refl _
def lw_At (p : Program) (s : State) (m : MethodId) (meth : Method) (c : Code) (b L : Nat) (xs : Nat → Int32) : Prop :=
  p.tables.exec = Jvm.exec ∧ c.code = code ∧ meth.sig.returnType = ret ∧ c.maxLocals = 4 ∧ s.vm.findClass R_law = some m.cls ∧ (∀ w ∈ lw_tbl, w.before #[Value.ref b] s = true) ∧ va_X b L xs s s.heap ∧ b < s.heap.size ∧ meth.locks = false ∧ (Jvm.Cond.and given_1 narrow_1).before #[Value.ref b] s = true
set_option maxHeartbeats 4000000 in
set_option maxRecDepth 100000 in
theorem law_env {p : Program} {s : State} {m : MethodId} {meth : Method} {c : Code} {b L : Nat} {xs : Nat → Int32} (C0 : lw_At p s m meth c b L xs) : ∃ (D : va_G) (cI cJ cN : ClassId) (ad av : Nat → Nat) (tf : Value) (t1 t2 : Nat) (A : Nat → Prop), (∀ q : Nat, s.heap.size ≤ q → A q) ∧ (∀ q : Nat, A q → s.heap.size ≤ q) ∧ ¬ A b ∧ va_K D vwCl [(cI, .int), (cJ, .long)] s ∧ va_AO RX4 s ∧ xC D cI cJ cN ad av tf t1 t2 A s := by
  obtain ⟨hx, hb, hr, hml, hown, hts, hXs, hbl, hlocks, hgv⟩ := C0
  have hg : ∀ w ∈ GW, w.before #[Value.ref b] s = true := fun w h => hts w (List.mem_filter.mp h).1
  obtain ⟨c0, iS0, hKn0⟩ := u_known (C := RX0) (T := TX0) (N := 3) (n := 3) hg inX0 (hts (.instantiable RX0 3) (List.mem_of_getElem? (i := 439) (by decide +kernel)))
  obtain ⟨c1, iS1, hKn1⟩ := u_known (C := RX1) (T := TX1) (N := 9) (n := 9) hg inX1 (hts (.instantiable RX1 9) (List.mem_of_getElem? (i := 261) (by decide +kernel)))
  obtain ⟨c2, iS2, hKn2⟩ := u_known (C := RX2) (T := TX2) (N := 9) (n := 9) hg inX2 (hts (.instantiable RX2 9) (List.mem_of_getElem? (i := 379) (by decide +kernel)))
  obtain ⟨c3, iS3, hKn3⟩ := u_known (C := RX3) (T := TX3) (N := 6) (n := 6) hg inX3 (hts (.instantiable RX3 6) (List.mem_of_getElem? (i := 338) (by decide +kernel)))
  obtain ⟨c4, iS4, hKn4⟩ := u_known (C := RX4) (T := TX4) (N := 12) (n := 12) hg inX4 (hts (.instantiable RX4 12) (List.mem_of_getElem? (i := 186) (by decide +kernel)))
  obtain ⟨c5, iS5, hKn5⟩ := u_known (C := RX5) (T := TX5) (N := 7) (n := 7) hg inX5 (hts (.instantiable RX5 7) (List.mem_of_getElem? (i := 309) (by decide +kernel)))
  obtain ⟨c6, iS6, hKn6⟩ := u_known (C := RX6) (T := TX6) (N := 10) (n := 10) hg inX6 (hts (.instantiable RX6 10) (List.mem_of_getElem? (i := 1155) (by decide +kernel)))
  obtain ⟨c7, iS7, hKn7⟩ := u_known (C := RX7) (T := TX7) (N := 5) (n := 5) hg inX7 (hts (.instantiable RX7 5) (List.mem_of_getElem? (i := 414) (by decide +kernel)))
  obtain ⟨c8, iS8, hKn8⟩ := u_known (C := RX8) (T := TX8) (N := 9) (n := 9) hg inX8 (hts (.instantiable RX8 9) (List.mem_of_getElem? (i := 531) (by decide +kernel)))
  obtain ⟨c9, iS9, hKn9⟩ := u_known (C := RX9) (T := TX9) (N := 3) (n := 3) hg inX9 (hts (.instantiable RX9 3) (List.mem_of_getElem? (i := 589) (by decide +kernel)))
  obtain ⟨c10, iS10, hKn10⟩ := u_known (C := RX10) (T := TX10) (N := 17) (n := 17) hg inX10 (hts (.instantiable RX10 17) (List.mem_of_getElem? (i := 180) (by decide +kernel)))
  obtain ⟨c11, iS11, hKn11⟩ := u_known (C := RX11) (T := TX11) (N := 13) (n := 13) hg inX11 (hts (.instantiable RX11 13) (List.mem_of_getElem? (i := 172) (by decide +kernel)))
  obtain ⟨c12, iS12, hKn12⟩ := u_known (C := RX12) (T := TX12) (N := 70) (n := 70) hg inX12 (hts (.instantiable RX12 70) (List.mem_of_getElem? (i := 1393) (by decide +kernel)))
  obtain ⟨cI, aI, nI1⟩ := arr_known (hts (.arrayClass .int) (List.mem_of_getElem? (i := 259) (by decide +kernel)))
  obtain ⟨cJ, aJ, nJ1⟩ := arr_known (hts (.arrayClass .long) (List.mem_of_getElem? (i := 604) (by decide +kernel)))
  have hao : va_AO RX4 s := va_AO.of (hts (.arrayOver (.object RX4)) (List.mem_of_getElem? (i := 605) (by decide +kernel)))
  obtain ⟨comp, cN, kN, n1, n2, n3, n4, n5⟩ := Cond.arrayOver_spec hao
  have hAN : ArrOfT s cN (.object RX4) := fun N z => ⟨(fun k h => by cases h), kN, n3, comp, n4⟩
  have hs := flat_of_before _ hgv
  have hA : ∀ a : Nat, a < s.heap.size → ¬ (fun q : Nat => s.heap.size ≤ q) a := fun a h => Nat.not_le.mpr h
  obtain ⟨t1, et1, ht1⟩ := va_Tof (tm := (.static "LampRound" "LEAST_SET" "[I")) (ty := .int) (N := 11) (f := f_least) (A := fun q : Nat => s.heap.size ≤ q) (by decide) (hs (.arrayOf (.static "LampRound" "LEAST_SET" "[I") .int) (by decide +kernel)) (va_eqt (z := 11) (hs (.eq (.length (.static "LampRound" "LEAST_SET" "[I")) (.int 11)) (by decide +kernel))) (fun j hj => by
    rcases (show j = 0 ∨ j = 1 ∨ j = 2 ∨ j = 3 ∨ j = 4 ∨ j = 5 ∨ j = 6 ∨ j = 7 ∨ j = 8 ∨ j = 9 ∨ j = 10 by omega) with rfl | rfl | rfl | rfl | rfl | rfl | rfl | rfl | rfl | rfl | rfl
    · exact va_eqt (z := 0) (hs (.eq (.elem (.static "LampRound" "LEAST_SET" "[I") (.int 0)) (.int 0)) (by decide +kernel))
    · exact va_eqt (z := 0) (hs (.eq (.elem (.static "LampRound" "LEAST_SET" "[I") (.int 1)) (.int 0)) (by decide +kernel))
    · exact va_eqt (z := 0) (hs (.eq (.elem (.static "LampRound" "LEAST_SET" "[I") (.int 2)) (.int 0)) (by decide +kernel))
    · exact va_eqt (z := 1) (hs (.eq (.elem (.static "LampRound" "LEAST_SET" "[I") (.int 3)) (.int 1)) (by decide +kernel))
    · exact va_eqt (z := 1) (hs (.eq (.elem (.static "LampRound" "LEAST_SET" "[I") (.int 4)) (.int 1)) (by decide +kernel))
    · exact va_eqt (z := 0) (hs (.eq (.elem (.static "LampRound" "LEAST_SET" "[I") (.int 5)) (.int 0)) (by decide +kernel))
    · exact va_eqt (z := 1) (hs (.eq (.elem (.static "LampRound" "LEAST_SET" "[I") (.int 6)) (.int 1)) (by decide +kernel))
    · exact va_eqt (z := 0) (hs (.eq (.elem (.static "LampRound" "LEAST_SET" "[I") (.int 7)) (.int 0)) (by decide +kernel))
    · exact va_eqt (z := 0) (hs (.eq (.elem (.static "LampRound" "LEAST_SET" "[I") (.int 8)) (.int 0)) (by decide +kernel))
    · exact va_eqt (z := 0) (hs (.eq (.elem (.static "LampRound" "LEAST_SET" "[I") (.int 9)) (.int 0)) (by decide +kernel))
    · exact va_eqt (z := 0) (hs (.eq (.elem (.static "LampRound" "LEAST_SET" "[I") (.int 10)) (.int 0)) (by decide +kernel))) hA
  have zt1 := va_Zof (A := fun q : Nat => s.heap.size ≤ q) (hts (.laysStatic "LampRound" "LEAST_SET" "[I") (List.mem_of_getElem? (i := 671) (by decide +kernel))) (hts (.initialized "LampRound") (List.mem_of_getElem? (i := 151) (by decide +kernel))) et1 hA
  obtain ⟨t2, et2, ht2⟩ := va_Tof (tm := (.static "LampRound" "MOST_SET" "[I")) (ty := .int) (N := 11) (f := f_most) (A := fun q : Nat => s.heap.size ≤ q) (by decide) (hs (.arrayOf (.static "LampRound" "MOST_SET" "[I") .int) (by decide +kernel)) (va_eqt (z := 11) (hs (.eq (.length (.static "LampRound" "MOST_SET" "[I")) (.int 11)) (by decide +kernel))) (fun j hj => by
    rcases (show j = 0 ∨ j = 1 ∨ j = 2 ∨ j = 3 ∨ j = 4 ∨ j = 5 ∨ j = 6 ∨ j = 7 ∨ j = 8 ∨ j = 9 ∨ j = 10 by omega) with rfl | rfl | rfl | rfl | rfl | rfl | rfl | rfl | rfl | rfl | rfl
    · exact va_eqt (z := 9) (hs (.eq (.elem (.static "LampRound" "MOST_SET" "[I") (.int 0)) (.int 9)) (by decide +kernel))
    · exact va_eqt (z := 1000) (hs (.eq (.elem (.static "LampRound" "MOST_SET" "[I") (.int 1)) (.int 1000)) (by decide +kernel))
    · exact va_eqt (z := 99) (hs (.eq (.elem (.static "LampRound" "MOST_SET" "[I") (.int 2)) (.int 99)) (by decide +kernel))
    · exact va_eqt (z := 99) (hs (.eq (.elem (.static "LampRound" "MOST_SET" "[I") (.int 3)) (.int 99)) (by decide +kernel))
    · exact va_eqt (z := 99) (hs (.eq (.elem (.static "LampRound" "MOST_SET" "[I") (.int 4)) (.int 99)) (by decide +kernel))
    · exact va_eqt (z := 9) (hs (.eq (.elem (.static "LampRound" "MOST_SET" "[I") (.int 5)) (.int 9)) (by decide +kernel))
    · exact va_eqt (z := 20) (hs (.eq (.elem (.static "LampRound" "MOST_SET" "[I") (.int 6)) (.int 20)) (by decide +kernel))
    · exact va_eqt (z := 999) (hs (.eq (.elem (.static "LampRound" "MOST_SET" "[I") (.int 7)) (.int 999)) (by decide +kernel))
    · exact va_eqt (z := 99) (hs (.eq (.elem (.static "LampRound" "MOST_SET" "[I") (.int 8)) (.int 99)) (by decide +kernel))
    · exact va_eqt (z := 99) (hs (.eq (.elem (.static "LampRound" "MOST_SET" "[I") (.int 9)) (.int 99)) (by decide +kernel))
    · exact va_eqt (z := 9999) (hs (.eq (.elem (.static "LampRound" "MOST_SET" "[I") (.int 10)) (.int 9999)) (by decide +kernel))) hA
  have zt2 := va_Zof (A := fun q : Nat => s.heap.size ≤ q) (hts (.laysStatic "LampRound" "MOST_SET" "[I") (List.mem_of_getElem? (i := 673) (by decide +kernel))) (hts (.initialized "LampRound") (List.mem_of_getElem? (i := 151) (by decide +kernel))) et2 hA
  obtain ⟨ad, av, hSt, hEv⟩ := tx_all (A := fun q : Nat => s.heap.size ≤ q) hgv hA
  have zc := va_Zof (A := fun q : Nat => s.heap.size ≤ q) (hts (.laysStatic "java/lang/String" "COMPACT_STRINGS" "Z") (List.mem_of_getElem? (i := 742) (by decide +kernel))) (hts (.initialized "java/lang/String") (List.mem_of_getElem? (i := 163) (by decide +kernel))) (va_eqt (z := 1) (hs (.eq (.static "java/lang/String" "COMPACT_STRINGS" "Z") (.int 1)) (by decide +kernel))) hA
  obtain ⟨tf, etf, htf⟩ := Cond.isRef_spec (hs (.isRef (.static "jdk/internal/util/Preconditions" "SIOOBE_FORMATTER" "Ljava/util/function/BiFunction;")) (by decide +kernel))
  have zf := va_Zof (A := fun q : Nat => s.heap.size ≤ q) (hts (.laysStatic "jdk/internal/util/Preconditions" "SIOOBE_FORMATTER" "Ljava/util/function/BiFunction;") (List.mem_of_getElem? (i := 758) (by decide +kernel))) (hts (.initialized "jdk/internal/util/Preconditions") (List.mem_of_getElem? (i := 165) (by decide +kernel))) etf hA
  have htf2 : tf = .null ∨ ∃ a : Nat, tf = .ref a := by
    cases tf with
    | null => exact Or.inl rfl
    | ref a => exact Or.inr ⟨a, rfl⟩
    | int _ => cases htf
    | long _ => cases htf
    | float _ => cases htf
    | double _ => cases htf
    | retAddr _ => cases htf
  have hk1 : ∀ (k : Nat) (q : vw_C), vwCl[k]? = some q → u_Kn s q.1 q.2.1 q.2.2 ((fun k => if k = 0 then c0 else if k = 1 then c1 else if k = 2 then c2 else if k = 3 then c3 else if k = 4 then c4 else if k = 5 then c5 else if k = 6 then c6 else if k = 7 then c7 else if k = 8 then c8 else if k = 9 then c9 else if k = 10 then c10 else if k = 11 then c11 else c12) k) ((fun k => if k = 0 then iS0 else if k = 1 then iS1 else if k = 2 then iS2 else if k = 3 then iS3 else if k = 4 then iS4 else if k = 5 then iS5 else if k = 6 then iS6 else if k = 7 then iS7 else if k = 8 then iS8 else if k = 9 then iS9 else if k = 10 then iS10 else if k = 11 then iS11 else iS12) k) := by
    intro k q hq
    match k, hq with
    | 0, hq => cases hq; exact hKn0
    | 1, hq => cases hq; exact hKn1
    | 2, hq => cases hq; exact hKn2
    | 3, hq => cases hq; exact hKn3
    | 4, hq => cases hq; exact hKn4
    | 5, hq => cases hq; exact hKn5
    | 6, hq => cases hq; exact hKn6
    | 7, hq => cases hq; exact hKn7
    | 8, hq => cases hq; exact hKn8
    | 9, hq => cases hq; exact hKn9
    | 10, hq => cases hq; exact hKn10
    | 11, hq => cases hq; exact hKn11
    | 12, hq => cases hq; exact hKn12
    | k + 13, hq => simp [vwCl] at hq
  refine ⟨((fun k => if k = 0 then c0 else if k = 1 then c1 else if k = 2 then c2 else if k = 3 then c3 else if k = 4 then c4 else if k = 5 then c5 else if k = 6 then c6 else if k = 7 then c7 else if k = 8 then c8 else if k = 9 then c9 else if k = 10 then c10 else if k = 11 then c11 else c12), (fun k => if k = 0 then iS0 else if k = 1 then iS1 else if k = 2 then iS2 else if k = 3 then iS3 else if k = 4 then iS4 else if k = 5 then iS5 else if k = 6 then iS6 else if k = 7 then iS7 else if k = 8 then iS8 else if k = 9 then iS9 else if k = 10 then iS10 else if k = 11 then iS11 else iS12)), cI, cJ, cN, ad, av, tf, t1, t2, fun q : Nat => s.heap.size ≤ q, fun _ h => h, fun _ h => h, Nat.not_le.mpr hbl, ⟨hk1, ?_⟩, hao, ⟨⟨hSt, zc, zf, htf2⟩, vk_R.of (hts (.stringRef RX8 15 "") (List.mem_of_getElem? (i := 536) (by decide +kernel))) (hEv 0 (by decide)), vk_R.of (hts (.stringRef RX8 41 "turn when or and not house owed waited snow oil season people needs far bid") (List.mem_of_getElem? (i := 717) (by decide +kernel))) (hEv 1 (by decide)), vk_R.of (hts (.stringRef RX8 43 "burn when or and not house owed waited snow oil season people needs") (List.mem_of_getElem? (i := 718) (by decide +kernel))) (hEv 2 (by decide)), vk_R.of (hts (.stringRef RX8 45 "path to in until") (List.mem_of_getElem? (i := 719) (by decide +kernel))) (hEv 3 (by decide)), vk_R.of (hts (.stringRef RX8 47 "need birth read mend bride at from to worth") (List.mem_of_getElem? (i := 720) (by decide +kernel))) (hEv 4 (by decide)), vk_R.of (hts (.stringRef RX8 49 "go stay again") (List.mem_of_getElem? (i := 721) (by decide +kernel))) (hEv 5 (by decide)), vk_R.of (hts (.stringRef RX8 71 ";+-*/()<=>") (List.mem_of_getElem? (i := 788) (by decide +kernel))) (hEv 6 (by decide))⟩, ⟨hk1, ?_⟩, zt1, ht1, zt2, ht2⟩
  · intro k q hq
    match k, hq with
    | 0, hq => cases hq; exact ⟨aI, nI1⟩
    | 1, hq => cases hq; exact ⟨aJ, nJ1⟩
    | k + 2, hq => simp at hq
  · intro k q hq
    match k, hq with
    | 0, hq => cases hq; exact ⟨aI, nI1⟩
    | 1, hq => cases hq; exact ⟨aJ, nJ1⟩
    | 2, hq => cases hq; exact ⟨hAN, kN, comp, n3, n4, n1, n5⟩
    | k + 3, hq => simp at hq
