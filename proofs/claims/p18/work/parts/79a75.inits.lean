/-! constructors of the class and of the reference -/
theorem q6_eq {a b c d e f : Nat} : va_up (va_up (va_up (va_up (va_up (va_up (fun _ => none) ((0 : Int32).toNatClampNeg) (some a)) ((1 : Int32).toNatClampNeg) (some b)) ((2 : Int32).toNatClampNeg) (some c)) ((3 : Int32).toNatClampNeg) (some d)) ((4 : Int32).toNatClampNeg) (some e)) ((5 : Int32).toNatClampNeg) (some f) = (fun j => ([some a, some b, some c, some d, some e, some f] : List (Option Nat)).getD j none) := by
  rw [show (0 : Int32).toNatClampNeg = 0 from by decide +kernel, show (1 : Int32).toNatClampNeg = 1 from by decide +kernel, show (2 : Int32).toNatClampNeg = 2 from by decide +kernel, show (3 : Int32).toNatClampNeg = 3 from by decide +kernel, show (4 : Int32).toNatClampNeg = 4 from by decide +kernel, show (5 : Int32).toNatClampNeg = 5 from by decide +kernel]
  funext j
  rcases j with _ | _ | _ | _ | _ | _ | j
  · rfl
  · rfl
  · rfl
  · rfl
  · rfl
  · rfl
  · simp only [va_up]
    rw [if_neg (by omega), if_neg (by omega), if_neg (by omega), if_neg (by omega), if_neg (by omega), if_neg (by omega)]
    rfl
theorem wds {f g : Nat → Int32} {k : Nat} {i x : Int32} (h : ∀ j : Nat, j < k → f j = w0 j) (e : g = upd f i.toNatClampNeg x) (hi : i.toNatClampNeg = k) (hx : x = w0 k) : ∀ j : Nat, j < k + 1 → g j = w0 j := by
  intro j hj
  rw [e, hi]
  by_cases q : j = k
  · subst q; rw [pk_us]; exact hx
  · rw [pk_un q]; exact h j (by omega)
def xJ (D : va_G) (cI cJ cN : ClassId) (qs : Nat → Nat) : State → Prop := fun U => xW qs U ∧ va_AO RX4 U ∧ xN D cI cJ cN U
theorem xJ_b {D : va_G} {cI cJ cN : ClassId} {qs : Nat → Nat} : XB (xJ D cI cJ cN qs) := fun a U g mk h => ⟨xW_b a U g mk h.1, va_AO.moved (u := U) (U := U.calling g mk a) (Vm.Alike.refl U.vm) h.2.1, xN_b a U g mk h.2.2⟩
theorem xJ_at {D : va_G} {cI cJ cN : ClassId} {qs : Nat → Nat} {s : State} {H : Heap} (h : xJ D cI cJ cN qs s) : ∀ U : State, U.heap = H → s.WarmedH U.vm → xJ D cI cJ cN qs U := fun U hU hW => ⟨xW_w h.1 hW, va_AO.moved hW.alike h.2.1, xN_at h.2.2 U hU hW⟩
section XR10
variable {p : Program} {l : Launch} {e : Env} {R : Room} {s : State} {m : MethodId} {args : Array Value} {below : List Frame} {meth : Method} {c : Code} {H : Heap} {locs : List Loc} {cells slots : Nat} {Q : State → Prop}
variable {cc : ByteArray} {pc : Nat} {ls : Array Slot} {rest : List Value} {D : va_G} {A : Nat → Prop} {a nL : Nat} {cI cJ cN : ClassId} {ws : va_W} {H0 : Heap} {own : String}
theorem x_newQ2 {C : String} {index : Nat} (E : EN p c cc nL s args own m D cI cJ) (hw : WD D A H0 ws H locs) (hcl : Cond.classLink own index C ∈ GW) (hov : va_AO C s) (hK : va_K D vwCl [(cI, .int), (cJ, .long), (cN, .object C)] s) {n : Int32} {N' k1 n1 : Nat} (hn : ¬ n < 0) (hN : n.toNatClampNeg = N') (hby : N' * 4 ≤ 536870912) (hcc : cells + 1 ≤ R.cells) (hss : slots + N' ≤ R.slots) (hk1 : cells + 1 ≤ k1) (hn1 : slots + N' ≤ n1) (hdg : decode cc pc = .ok (.anewarray index, 3))
    (kk : ∀ (q : Nat) (H1 : Heap), WD D A H0 (ws ++ [(q, .inl (cN, N', .inr (.inr (.inr (.inr (fun _ => none))))))]) H1 locs → W p l e R s m args below meth c H1 locs k1 n1 Q (F0 m (pc + 3) ls (.ref q :: rest))) : W p l e R s m args below meth c H locs cells slots Q (F0 m pc ls (.int n :: rest)) := by
  refine x_newQ E hw hcl hov hn hN hby hcc hss hk1 hn1 hdg (fun q cA H1 hKA h1 => ?_)
  obtain ⟨_, _, _, _, _, e1⟩ := (hKA.2 2 (cA, .object C) rfl).2
  obtain ⟨_, _, _, _, _, e2⟩ := (hK.2 2 (cN, .object C) rfl).2
  have e3 : cA = cN := Option.some.inj (e1.symm.trans e2)
  subst e3
  exact kk q H1 h1
theorem x_astE {r : vw_C} (E : EN p c cc nL s args own m D cI cJ) (hK : va_K D vwCl [(cI, .int), (cJ, .long), (cN, .object r.1)] s) (hw : WD D A H0 ws H locs) (q0 qk ci : Nat) {n v : Nat} {vs : List Value} {f : Nat → Option Nat} (ha : ws[q0]? = some (a, .inl (cN, n, .inr (.inr (.inr (.inr f)))))) (hv : ws[qk]? = some (v, .inr (ci, vs))) (hc : vwCl[ci]? = some r) {i : Int32} (hin : vp_in i n) {ws' : va_W} (hws : ws.set q0 (a, .inl (cN, n, .inr (.inr (.inr (.inr (va_up f i.toNatClampNeg (some v))))))) = ws') (hdg : decode cc pc = .ok (.aastore, 1))
    (kk : ∀ (H1 : Heap) (locs1 : List Loc), WD D A H0 ws' H1 locs1 → W p l e R s m args below meth c H1 locs1 cells slots Q (F0 m (pc + 1) ls rest)) : W p l e R s m args below meth c H locs cells slots Q (F0 m pc ls (.ref v :: .int i :: .ref a :: rest)) :=
  va_astq E.1 E.2.1 hK hw.1 hw.2.1 hw.2.2.1 q0 2 qk ci ha rfl hv hc hin hdg (fun H1 locs1 h1 h2 h3 => kk H1 locs1 ⟨hws ▸ h1, hws ▸ h2, h3, hw.2.2.2⟩)
end XR10
def nl (L : List Nat) : Nat → Nat := fun k => L.getD k 0
def il (L : List Int32) : Nat → Int32 := fun k => L.getD k 0
def fl (L : List (Nat → Int32)) : Nat → Nat → Int32 := fun k => L.getD k (fun _ => 0)
theorem pathsOK_z : pathsOK (fun _ => 0) := fun i _ => by
  have e : (0 : Int32).toInt = 0 := by decide +kernel
  show (0 ≤ (0 : Int32).toInt ∧ (0 : Int32).toInt ≤ 9) ∧ (0 ≤ (0 : Int32).toInt ∧ (0 : Int32).toInt ≤ 9)
  rw [e]; omega
def qsA (ad : Nat → Nat) : Nat → Nat := fun i => ad ([1, 2, 3, 4, 5, 0].getD i 0)
