/-! texts: shifts by nought, chars, a text as an answer; rows of references -/
theorem shr_0 (x : Int32) : x >>> ((0 : Int32) &&& 31) = x := by
  rw [show (0 : Int32) &&& 31 = 0 from by decide +kernel]
  apply Int32.toBitVec_inj.mp
  show x.toBitVec.sshiftRight' ((0 : Int32).toBitVec.smod 32) = x.toBitVec
  rw [show (0 : Int32).toBitVec.smod 32 = 0#32 from by decide +kernel]
  show x.toBitVec.sshiftRight 0 = x.toBitVec
  exact BitVec.sshiftRight_zero
theorem u32_int {w : UInt32} (h : w.toNat < 2147483648) : (w.toInt32).toInt = (w.toNat : Int) := by
  show w.toBitVec.toInt = (w.toBitVec.toNat : Int)
  exact BitVec.toInt_eq_toNat_of_lt (by show 2 * w.toNat < 4294967296; omega)
theorem u_of {v : Int32} (h : 0 ≤ v.toInt) : v.toUInt32.toNat = v.toInt.toNat := by
  have e := BitVec.toInt_eq_toNat_cond v.toBitVec
  have l : v.toBitVec.toNat < 4294967296 := v.toBitVec.isLt
  have h1 : 0 ≤ v.toBitVec.toInt := h
  show v.toBitVec.toNat = v.toBitVec.toInt.toNat
  by_cases q : 2 * v.toBitVec.toNat < 2 ^ 32
  · rw [if_pos q] at e
    omega
  · rw [if_neg q] at e
    have e2 : v.toBitVec.toInt = (v.toBitVec.toNat : Int) - 4294967296 := e
    omega
theorem i2c_b (x : Int32) : 0 ≤ ((x.toUInt32 % 65536).toInt32).toInt ∧ ((x.toUInt32 % 65536).toInt32).toInt ≤ 65535 := by
  have h : (x.toUInt32 % 65536).toNat < 65536 := by
    rw [UInt32.toNat_mod]
    exact Nat.mod_lt _ (by decide)
  rw [u32_int (by omega)]
  omega
theorem char_nar {v : Int32} (h : 0 ≤ v.toInt ∧ v.toInt ≤ 65535) : narrow .char (.int v) = .int v := by
  have e : v.toUInt32.toUInt16.toUInt32.toInt32 = v := by
    apply Int32.toInt_inj.mp
    have h1 := u_of h.1
    have h2 : v.toUInt32.toUInt16.toUInt32.toNat = v.toInt.toNat := by
      show v.toUInt32.toNat % 65536 = v.toInt.toNat
      rw [h1]
      omega
    rw [u32_int (by rw [h2]; omega), h2]
    omega
  show Value.int v.toUInt32.toUInt16.toUInt32.toInt32 = Value.int v
  rw [e]
def xN (D : va_G) (cI cJ cN : ClassId) : State → Prop := fun U => va_K D vwCl [(cI, .int), (cJ, .long), (cN, .object RX4)] U
theorem xN_b {D : va_G} {cI cJ cN : ClassId} : XB (xN D cI cJ cN) := fun a U g mk h => va_K.moved (u := U) (U := U.calling g mk a) (Vm.Alike.refl U.vm) h
theorem xN_at {D : va_G} {cI cJ cN : ClassId} {s : State} {H : Heap} (h : xN D cI cJ cN s) : ∀ U : State, U.heap = H → s.WarmedH U.vm → xN D cI cJ cN U := fun _ _ hW => va_K.moved hW.alike h
section XR9
variable {p : Program} {l : Launch} {e : Env} {R : Room} {s : State} {m : MethodId} {args : Array Value} {below : List Frame} {meth : Method} {c : Code} {H : Heap} {locs : List Loc} {cells slots : Nat} {Q : State → Prop}
variable {cc : ByteArray} {pc : Nat} {ls : Array Slot} {rest : List Value} {D : va_G} {A : Nat → Prop} {a nL : Nat} {cI cJ cN : ClassId} {ws : va_W} {H0 : Heap} {own : String}
theorem em_tx {k : Int32} {ra : Nat} {w1 : va_W} {ad : Nat → Nat} {mc ms : Nat} {n : String} (E : EN p c cc nL s args own m D cI cJ) (hr : meth.sig.returnType = some (.object n)) (hlk : meth.locks = false) (hw : WD D A s.heap w1 H locs) (hp : (0 ≤ k.toInt) ∧ (k.toInt ≤ 6)) (hra : ra = ad (ti k)) (hmc : cells ≤ mc) (hms : slots ≤ ms) (hdg : decode cc pc = .ok (.areturn, 1)) :
    W p l e R s m args below meth c H locs cells slots (MQ below (va_Qr (fun (u : Int32) => (0 ≤ u.toInt) ∧ (u.toInt ≤ 6)) (fun u ra t => ra = ad (ti u) ∧ QW D cI cJ A w1 t) A) args s mc ms A) (F0 m pc ls [.ref ra]) :=
  W.widen hmc hms (W.aret E.1 E.2.1 hr (Or.inl ⟨n, rfl⟩) (Or.inr ⟨ra, rfl⟩) (fun _ ht hW => ⟨⟨k, ra, rfl, hp, hra, ⟨by rw [ht]; exact hw.1, va_K.moved hW.alike E.2.2.2.2.2, hw.2.1⟩⟩, hw.2.2.1.F ht⟩) hw.2.2.1.2.2 hdg hlk)
theorem cq_t {ad : Nat → Nat} {w1 ws' : va_W} {wc : va_W} {st : List Value} {av : Array Value} (hw : WD D A H0 ws H locs) (isC isR is : List Nat) (hC : isC.map (fun i => ws[i]?) = wc.map some) (hR : isR.map (fun i => ws[i]?) = (restW ws isR).map some) (hn : va_nd isR = true) (hdis : ∀ i ∈ isR, i ∉ isC) (hp : is.map (fun i => (restW ws isR ++ w1)[i]?) = ws'.map some) (hnp : va_nd is = true)
    (hr : va_Run p l e R s m args below meth c H locs cells slots 0 0 (F0 m pc ls st) rest (va_Qr (fun (u : Int32) => (0 ≤ u.toInt) ∧ (u.toInt ≤ 6)) (fun u ra t => ra = ad (ti u) ∧ QW D cI cJ (va_A wc H.size) w1 t) (va_A wc H.size) av) (va_A wc H.size))
    (kk : ∀ (u : Int32) (H1 : Heap) (locs1 : List Loc), (0 ≤ u.toInt) ∧ (u.toInt ≤ 6) → WD D A H0 ws' H1 locs1 → W p l e R s m args below meth c H1 locs1 cells slots Q (F0 m (pc + 3) ls (.ref (ad (ti u)) :: rest))) : W p l e R s m args below meth c H locs cells slots Q (F0 m pc ls st) :=
  have hF := va_free hw.2.1 hw.2.2.1 hw.2.2.2 isC hC
  va_callr hr hw.2.2.1 (fun q _ h => hF q h) hF (fun u ra _ H1 locs1 ht _ hp1 hB _ hk hS => by
    obtain ⟨h1, h2⟩ := hB
    subst h1
    exact kk u H1 locs1 hp1 ((bk hw isC isR hC hR hn hdis ht h2 hk hS).sub is hp hnp))
theorem x_aldq {k n v : Nat} {C : String} {f : Nat → Option Nat} (E : EN p c cc nL s args own m D cI cJ) (hK : va_K D vwCl [(cI, .int), (cJ, .long), (cN, .object C)] s) (hw : WD D A H0 ws H locs) (q0 : Nat) (ha : ws[q0]? = some (a, .inl (cN, n, .inr (.inr (.inr (.inr f)))))) {i : Int32} (hi : i.toInt = k) (hk : k < n) (hv : f k = some v) (hdg : decode cc pc = .ok (.aaload, 1))
    (kk : W p l e R s m args below meth c H locs cells slots Q (F0 m (pc + 1) ls (.ref v :: rest))) : W p l e R s m args below meth c H locs cells slots Q (F0 m pc ls (.int i :: .ref a :: rest)) := by
  have e1 : i.toNatClampNeg = k := by
    have := idxI (x := i) (by omega)
    omega
  refine va_aldq E.1 E.2.1 hK hw.1 q0 2 ha rfl (vp_in_iff.mpr (by omega)) hdg ?_
  rw [e1, hv]
  exact kk
end XR9
