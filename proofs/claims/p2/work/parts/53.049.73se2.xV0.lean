/-! a text that is told exactly -/
section XV0
variable {p : Program} {l : Launch} {e : Env} {R : Room} {s : State} {m : MethodId} {args : Array Value} {below : List Frame} {meth : Method} {c : Code} {H : Heap} {locs : List Loc} {cells slots : Nat} {Q : State → Prop}
variable {cc : ByteArray} {pc : Nat} {ls : Array Slot} {rest : List Value} {D : va_G} {A : Nat → Prop} {a nL : Nat} {cI cJ cN : ClassId} {ws : va_W} {H0 : Heap} {own : String}
theorem em_txq {lo hi : Int} {k : Int32} {ra : Nat} {w1 : va_W} {ad : Nat → Nat} {mc ms : Nat} {n : String} (E : EN p c cc nL s args own m D cI cJ) (hr : meth.sig.returnType = some (.object n)) (hlk : meth.locks = false) (hw : WD D A s.heap w1 H locs) (hp : (lo ≤ k.toInt) ∧ (k.toInt ≤ hi)) (hra : ra = ad (ti k)) (hmc : cells ≤ mc) (hms : slots ≤ ms) (hdg : decode cc pc = .ok (.areturn, 1)) :
    W p l e R s m args below meth c H locs cells slots (MQ below (va_Qr (fun (u : Int32) => (lo ≤ u.toInt) ∧ (u.toInt ≤ hi)) (fun u ra t => ra = ad (ti u) ∧ QW D cI cJ A w1 t) A) args s mc ms A) (F0 m pc ls [.ref ra]) :=
  W.widen hmc hms (W.aret E.1 E.2.1 hr (Or.inl ⟨n, rfl⟩) (Or.inr ⟨ra, rfl⟩) (fun _ ht hW => ⟨⟨k, ra, rfl, hp, hra, ⟨by rw [ht]; exact hw.1, va_K.moved hW.alike E.2.2.2.2.2, hw.2.1⟩⟩, hw.2.2.1.F ht⟩) hw.2.2.1.2.2 hdg hlk)
theorem cq_tq {lo hi : Int} {ad : Nat → Nat} {w1 ws' : va_W} {wc : va_W} {st : List Value} {av : Array Value} (hw : WD D A H0 ws H locs) (isC isR is : List Nat) (hC : isC.map (fun i => ws[i]?) = wc.map some) (hR : isR.map (fun i => ws[i]?) = (restW ws isR).map some) (hn : va_nd isR = true) (hdis : ∀ i ∈ isR, i ∉ isC) (hp : is.map (fun i => (restW ws isR ++ w1)[i]?) = ws'.map some) (hnp : va_nd is = true)
    (hr : va_Run p l e R s m args below meth c H locs cells slots 0 0 (F0 m pc ls st) rest (va_Qr (fun (u : Int32) => (lo ≤ u.toInt) ∧ (u.toInt ≤ hi)) (fun u ra t => ra = ad (ti u) ∧ QW D cI cJ (va_A wc H.size) w1 t) (va_A wc H.size) av) (va_A wc H.size))
    (kk : ∀ (u : Int32) (H1 : Heap) (locs1 : List Loc), (lo ≤ u.toInt) ∧ (u.toInt ≤ hi) → WD D A H0 ws' H1 locs1 → W p l e R s m args below meth c H1 locs1 cells slots Q (F0 m (pc + 3) ls (.ref (ad (ti u)) :: rest))) : W p l e R s m args below meth c H locs cells slots Q (F0 m pc ls st) :=
  have hF := va_free hw.2.1 hw.2.2.1 hw.2.2.2 isC hC
  va_callr hr hw.2.2.1 (fun q _ h => hF q h) hF (fun u ra _ H1 locs1 ht _ hp1 hB _ hk hS => by
    obtain ⟨h1, h2⟩ := hB
    subst h1
    exact kk u H1 locs1 hp1 ((bk hw isC isR hC hR hn hdis ht h2 hk hS).sub is hp hnp))
end XV0
theorem CS_open {w : Nat} {t : Nat → Int32} {n f fp a pl kd vl p : Int} (hf : f = 0) (hp : p = 0) (ts : f = 0 → TKS w t n p pl a kd vl) : CS w t n (.ok 0) f fp a pl kd vl := by
  subst hp
  exact ⟨hf, ts hf⟩
/-- what undo can still take back, once a text is read -/
def TXU (s : Except (Int × Int) Int) (u : Int) : Int := match s with
  | .ok _ => 0
  | .error _ => u
theorem TXU_no {w : Nat} {t : Nat → Int32} {n f fp a pl kd vl u : Int} {s : Except (Int × Int) Int} (h : CS w t n s f fp a pl kd vl) (hf : f ≠ 0) : TXU s u = u := by
  cases s with
  | ok p => exact absurd h.1 hf
  | error e => rfl
theorem TXU_yes {w : Nat} {t : Nat → Int32} {n f fp a pl kd vl u : Int} {s : Except (Int × Int) Int} (h : CS w t n s f fp a pl kd vl) (hf : f = 0) : TXU s u = 0 := by
  cases s with
  | ok p => rfl
  | error e => exact absurd (h.1.symm.trans hf) h.2.2
theorem TXU_same {s s' : Except (Int × Int) Int} {u : Int} (h : sameE s s') : TXU s u = TXU s' u := by
  cases s with
  | ok p =>
    cases s' with
    | ok q => rfl
    | error e => exact absurd ((h e).mpr rfl) (fun z => by cases z)
  | error e =>
    have z := (h e).mp rfl
    rw [z]
theorem ti_of {x : Int32} {k : Nat} (h : x.toInt = (k : Int)) : ti x = k := by
  have q := idxI (x := x) (by omega)
  show x.toNatClampNeg = k
  omega
