/-! a method of a part of the class, as a method of the whole: consequence, frame, whole worlds -/
theorem met_cq {l : Launch} {y : MethodName} {W : List Cond} {rm : Room} {Pc Pc' : Array Value → State → Prop} {Qc Qc' : Array Value → State → Outcome → State → Prop} {mc ms : Nat} {free free' : Addr → Prop} (hM : Met l y W rm Pc Qc mc ms free) (hP : ∀ a s, Pc' a s → Pc a s) (hQ : ∀ a s o t, Pc' a s → Qc a s o t → Qc' a s o t) (hF : ∀ q, free q → free' q) : Met l y W rm Pc' Qc' mc ms free' := by
  unfold Met MetFree at hM ⊢
  intro p e h1 h2 h3 s m args below hf hS hp hk
  obtain ⟨n, o, a1, a2, a3, hq, L, hL, hl⟩ := hM p e h1 h2 h3 s m args below hf hS (hP _ _ hp) hk
  exact ⟨n, o, a1, a2, a3, hQ _ _ _ _ hp hq, L, hL, fun q h => hF _ (hl q h)⟩
theorem in_app {α : Type} {a b : List α} {k : Nat} {q : α} (h : a[k]? = some q) : (a ++ b)[k]? = some q := by
  rw [List.getElem?_append_left (List.getElem?_eq_some_iff.mp h).1]; exact h
theorem P_left {D : va_G} {cl : List vw_C} {a b : va_W} {H : Heap} (h : va_P D cl (a ++ b) H) : va_P D cl a H := fun k q hq => h k q (in_app hq)
theorem D_left {A : Nat → Prop} {a b : va_W} (h : va_D A (a ++ b)) : va_D A a := ⟨fun i j p q hi hj e => h.1 i j p q (in_app hi) (in_app hj) e, fun k q hk => h.2 k q (in_app hk)⟩
theorem A_app {a b : va_W} {sz q : Nat} (h : va_A a sz q) : va_A (a ++ b) sz q := by
  rcases h with ⟨k, e, h⟩ | h
  · exact Or.inl ⟨k, e, in_app h⟩
  · exact Or.inr h
theorem A_in {X wc : va_W} {sz : Nat} (isC : List Nat) (hC : isC.map (fun i => X[i]?) = wc.map some) : ∀ q, va_A wc sz q → va_A X sz q := by
  intro q h
  rcases h with ⟨k, e, h⟩ | h
  · obtain ⟨j, -, h2⟩ := va_in_of isC hC h
    exact Or.inl ⟨j, e, h2⟩
  · exact Or.inr h
theorem emb_w {D : va_G} {cI cJ : ClassId} {X tl wc w1 X' : va_W} {sz : Nat} {s t : State} (isC isR is : List Nat) (hC : isC.map (fun i => X[i]?) = wc.map some) (hR : isR.map (fun i => X[i]?) = (restW X isR).map some) (hn : va_nd isR = true) (hdis : ∀ i ∈ isR, i ∉ isC) (hp : is.map (fun i => (restW X isR ++ w1)[i]?) = X'.map some) (hnp : va_nd is = true)
    (hsz : s.heap.size = sz) (hP : va_P D vwCl (X ++ tl) s.heap) (hD : va_D (fun _ => True) (X ++ tl)) (hB : QW D cI cJ (va_A wc sz) w1 t) (hF : va_F (va_A wc sz) s t) : QW D cI cJ (va_A (X ++ tl) sz) (X' ++ tl) t ∧ va_F (va_A (X ++ tl) sz) s t := by
  subst hsz
  obtain ⟨b1, b2, b3⟩ := hB
  have hA : ∀ q, va_A wc s.heap.size q → va_A (X ++ tl) s.heap.size q := fun q h => A_app (A_in isC hC q h)
  obtain ⟨j1, j2⟩ := va_joinQ hP (hD.self (sz := s.heap.size)) isC isR hC hR hn hdis hF.2 hA b1 b3
  exact ⟨⟨fun k q hq => j1 _ q (va_part is hp k q hq), b2, j2.part is hnp hp⟩, hF.1, fun q h1 h2 => hF.2 q h1 (fun h => h2 (hA q h))⟩
theorem emb_pre {D : va_G} {cI cJ : ClassId} {X tl wc : va_W} {sz : Nat} {avs : List Value} {Xb Xs : State → Prop} (isC : List Nat) (hC : isC.map (fun i => X[i]?) = wc.map some) (hnC : va_nd isC = true) (hX : ∀ U, Xb U → Xs U) : ∀ (a : Array Value) (s : State), va_Pc avs (PW D cI cJ sz (X ++ tl) Xb) a s → va_Pc avs (PW D cI cJ sz wc Xs) a s := by
  rintro a s ⟨e0, e1, eP, eK, eD, eX⟩
  refine ⟨e0, e1, fun k q hq => ?_, eK, D_left (eD.part isC hnC hC), hX s eX⟩
  obtain ⟨j, -, h2⟩ := va_in_of isC hC hq
  exact eP j q (in_app h2)
theorem emb_i {l : Launch} {y : MethodName} {W : List Cond} {rm : Room} {avs : List Value} {D : va_G} {cI cJ : ClassId} {sz mc ms : Nat} {ws X tl wc : va_W} {S : Type} {post : Int32 → S → Prop} {post' : Int32 → va_W → Prop} {w1 X' : S → va_W} {Xb Xs : State → Prop} (isC isR : List Nat) (is : S → List Nat) (hM : Met l y W rm (va_Pc avs (PW D cI cJ sz wc Xs)) (va_Qi post (fun u => QW D cI cJ (va_A wc sz) (w1 u)) (va_A wc sz)) mc ms (va_A wc sz)) (hws : ws = X ++ tl) (hC : isC.map (fun i => X[i]?) = wc.map some) (hnC : va_nd isC = true) (hR : isR.map (fun i => X[i]?) = (restW X isR).map some) (hn : va_nd isR = true) (hdis : ∀ i ∈ isR, i ∉ isC) (hp : ∀ u : S, (is u).map (fun i => (restW X isR ++ w1 u)[i]?) = (X' u).map some) (hnp : ∀ u : S, va_nd (is u) = true)
    (hX : (∀ q, va_A wc sz q → va_A ws sz q) → ∀ U, Xb U → Xs U) (hpost : ∀ (r : Int32) (u : S), post r u → post' r (X' u ++ tl)) :
    Met l y W rm (va_Pc avs (PW D cI cJ sz ws Xb)) (va_Qi post' (fun w => QW D cI cJ (va_A ws sz) w) (va_A ws sz)) mc ms (va_A ws sz) := by
  subst hws
  have hA : ∀ q, va_A wc sz q → va_A (X ++ tl) sz q := fun q h => A_app (A_in isC hC q h)
  refine met_cq hM (emb_pre isC hC hnC (hX hA)) ?_ hA
  rintro a s o t ⟨e0, e1, eP, eK, eD, eX⟩ ⟨⟨r, u, ho, hp1, hB⟩, hF⟩
  obtain ⟨g1, g2⟩ := emb_w isC isR (is u) hC hR hn hdis (hp u) (hnp u) e1 eP eD hB hF
  exact ⟨⟨r, X' u ++ tl, ho, hpost r u hp1, g1⟩, g2⟩
theorem emb_l {l : Launch} {y : MethodName} {W : List Cond} {rm : Room} {avs : List Value} {D : va_G} {cI cJ : ClassId} {sz mc ms : Nat} {ws X tl wc : va_W} {S : Type} {post : Int64 → S → Prop} {post' : Int64 → va_W → Prop} {w1 X' : S → va_W} {Xb Xs : State → Prop} (isC isR : List Nat) (is : S → List Nat) (hM : Met l y W rm (va_Pc avs (PW D cI cJ sz wc Xs)) (va_Ql post (fun u => QW D cI cJ (va_A wc sz) (w1 u)) (va_A wc sz)) mc ms (va_A wc sz)) (hws : ws = X ++ tl) (hC : isC.map (fun i => X[i]?) = wc.map some) (hnC : va_nd isC = true) (hR : isR.map (fun i => X[i]?) = (restW X isR).map some) (hn : va_nd isR = true) (hdis : ∀ i ∈ isR, i ∉ isC) (hp : ∀ u : S, (is u).map (fun i => (restW X isR ++ w1 u)[i]?) = (X' u).map some) (hnp : ∀ u : S, va_nd (is u) = true)
    (hX : (∀ q, va_A wc sz q → va_A ws sz q) → ∀ U, Xb U → Xs U) (hpost : ∀ (r : Int64) (u : S), post r u → post' r (X' u ++ tl)) :
    Met l y W rm (va_Pc avs (PW D cI cJ sz ws Xb)) (va_Ql post' (fun w => QW D cI cJ (va_A ws sz) w) (va_A ws sz)) mc ms (va_A ws sz) := by
  subst hws
  have hA : ∀ q, va_A wc sz q → va_A (X ++ tl) sz q := fun q h => A_app (A_in isC hC q h)
  refine met_cq hM (emb_pre isC hC hnC (hX hA)) ?_ hA
  rintro a s o t ⟨e0, e1, eP, eK, eD, eX⟩ ⟨⟨r, u, ho, hp1, hB⟩, hF⟩
  obtain ⟨g1, g2⟩ := emb_w isC isR (is u) hC hR hn hdis (hp u) (hnp u) e1 eP eD hB hF
  exact ⟨⟨r, X' u ++ tl, ho, hpost r u hp1, g1⟩, g2⟩
def xC (D : va_G) (cI cJ cN : ClassId) (ad av : Nat → Nat) (tf : Value) (t1 t2 : Nat) (A : Nat → Prop) : State → Prop := fun U => xT8 ad av tf A U ∧ xN D cI cJ cN U ∧ xZ t1 t2 A U
theorem xT8_n {ad av : Nat → Nat} {tf : Value} {A B : Nat → Prop} {U : State} (hAB : ∀ q, B q → A q) (h : xT8 ad av tf A U) : xT8 ad av tf B U := ⟨⟨h.1.1.narrow hAB, h.1.2.1.narrow hAB, h.1.2.2.1.narrow hAB, h.1.2.2.2⟩, h.2⟩
theorem xZ_n {t1 t2 : Nat} {A B : Nat → Prop} {U : State} (hAB : ∀ q, B q → A q) (h : xZ t1 t2 A U) : xZ t1 t2 B U := ⟨h.1.narrow hAB, h.2.1.narrow hAB, h.2.2.1.narrow hAB, h.2.2.2.narrow hAB⟩
theorem xC_b {D : va_G} {cI cJ cN : ClassId} {ad av : Nat → Nat} {tf : Value} {t1 t2 : Nat} {A : Nat → Prop} : XB (xC D cI cJ cN ad av tf t1 t2 A) := fun a U g mk h => ⟨xT8_b a U g mk h.1, xN_b a U g mk h.2.1, xZ_b a U g mk h.2.2⟩
theorem xC_at {D : va_G} {cI cJ cN : ClassId} {ad av : Nat → Nat} {tf : Value} {t1 t2 : Nat} {A0 : Nat → Prop} {s : State} {H : Heap} {locs : List Loc} {wc : va_W} (h : xC D cI cJ cN ad av tf t1 t2 A0 s) (hS : va_S A0 s.heap H locs) (hF : ∀ q, va_A wc H.size q → A0 q) : ∀ U : State, U.heap = H → s.WarmedH U.vm → xC D cI cJ cN ad av tf t1 t2 (va_A wc H.size) U := fun U hU hW => ⟨xT8_at h.1 hS hF U hU hW, xN_at h.2.1 U hU hW, xZ_at h.2.2 hS hF U hU hW⟩
/-! what both sides share besides: the tape's signs, the night, what can be undone, the image's night -/
abbrev K7 := Int × (Nat → Int32) × Int × Int × Int
abbrev N7 := KT × K7
def setU (m : K7) (u : Int) : K7 := (m.1, m.2.1, m.2.2.1, u, m.2.2.2.2)
noncomputable def cIf (c : Prop) (a b : Int) : Int := @ite _ c (Classical.propDecidable c) a b
theorem cIf_t {c : Prop} {a b : Int} (h : c) : cIf c a b = a := if_pos h
theorem cIf_f {c : Prop} {a b : Int} (h : ¬ c) : cIf c a b = b := if_neg h
def T7s (T : N7) : N7 := (T.1, setU T.2 0)
noncomputable def T7h (T : N7) (w : Int32) (pe oi : Int) : N7 := (TH T.1 w pe oi, setU T.2 (cIf (HOK T.1.1.1.toInt T.1.1.2.1 w.toInt pe oi) 0 T.2.2.2.2.1))
noncomputable def T7set (T : N7) (what who v : Int) : N7 := (T.1, setU T.2 (cIf (SETC T.1.1.1.toInt what who v) 0 T.2.2.2.2.1))
noncomputable def T7fr (T : N7) (a b : Int) : N7 := (T.1, setU T.2 (cIf (FRDC T.1.1.1.toInt a b) 0 T.2.2.2.2.1))
noncomputable def T7n (T : N7) (k : Int) : N7 := (T.1, (T.2.1, T.2.2.1, cIf (NGC T.1.1.1.toInt T.2.2.2.1 k) (T.2.2.2.1 + k) T.2.2.2.1, cIf (NGC T.1.1.1.toInt T.2.2.2.1 k) (if 6 ≤ T.2.2.2.2.1 + k then 6 else T.2.2.2.2.1 + k) T.2.2.2.2.1, T.2.2.2.2.2))
def T7u (T : N7) : N7 := if T.2.2.2.2.1 = 0 then T else (T.1, (T.2.1, T.2.2.1, T.2.2.2.1 - 1, T.2.2.2.2.1 - 1, T.2.2.2.2.2))
def U7 (T : N7) : Int32 := if T.2.2.2.2.1 = 0 then 0 else 1
def T7f (T : N7) (a b c d e : Int32) : N7 := if T.2.1 ≤ 380 then (T.1, (T.2.1 + 20, FD T.2.2.1 T.2.1.toNat a b c d e, T.2.2.2)) else T
def T7e (T : N7) (k : Int) : N7 := if 0 ≤ k ∧ k ≤ T.2.1 then (T.1, (k, T.2.2)) else T
def X7 (T : N7) (k : Int) : Int := if k = 2 then TXU (rdR T.2.2.1 T.2.1 (pathR T.2.2.1 T.2.1 (T.1.1.1.toInt - 1)) 16 40 41 0 0) T.2.2.2.2.1 else if k = 3 then TXU (rdR T.2.2.1 T.2.1 (needR T.2.2.1 T.2.1 (T.1.1.1.toInt - 1)) 20 10 11 0 0) T.2.2.2.2.1 else if k = 4 then TXU (roundR T.2.2.1 T.2.1 (T.1.1.1.toInt - 1) 0) T.2.2.2.2.1 else T.2.2.2.2.1
def T7x (T : N7) (k : Int) : N7 := (T.1, (0, T.2.2.1, T.2.2.2.1, X7 T k, T.2.2.2.2.2))
def T7i1 (T : N7) : N7 := (TI1 T.1, (T.2.1, T.2.2.1, T.2.2.2.1, T.2.2.2.2.1, T.2.2.2.1))
def T7i0 (T : N7) : N7 := match T.1.2 with
  | none => (TI0 T.1, T.2)
  | some _ => (TI0 T.1, (T.2.1, T.2.2.1, T.2.2.2.2.2, 0, T.2.2.2.2.2))
def T7i (T : N7) (z : Int) : N7 := if z = 1 then T7i1 T else T7i0 T
noncomputable def T7c (T : N7) (ni se : Int) : N7 := (TC T.1 ni se, T.2)
theorem T7i_1 {T : N7} {z : Int} (h : z = 1) : T7i T z = T7i1 T := if_pos h
theorem T7i_0 {T : N7} {z : Int} (h : z = 0) : T7i T z = T7i0 T := if_neg (by omega)
/-- the class: what is so now -/
def K7R (m : K7) (sz : Int) (tx : Nat → Int32) (ng un ol : Int) (q l : Nat → Int) (lp : Int) (rs : Nat → Int32) (rz hc : Int) : Prop := sz = m.1 ∧ tx = m.2.1 ∧ ng = m.2.2.1 ∧ un = m.2.2.2.1 ∧ RGL ol un ng q l hc un ∧ LMP hc lp ∧ STV rs rz hc
def K7K (m : K7) (kn kl : Int) (ks : Nat → Int32) (kz kh : Int) : Prop := kn = m.2.2.2.2 ∧ LMP kh kl ∧ STV ks kz kh
theorem rq6_eq {a0 a1 a2 a3 a4 a5 b0 b1 b2 b3 b4 b5 : Int32} (e0 : b0 = a0) (e1 : b1 = a1) (e2 : b2 = a2) (e3 : b3 = a3) (e4 : b4 = a4) (e5 : b5 = a5) : rq6 b0.toInt b1.toInt b2.toInt b3.toInt b4.toInt b5.toInt = rq6 a0.toInt a1.toInt a2.toInt a3.toInt a4.toInt a5.toInt := by subst e0 e1 e2 e3 e4 e5; rfl
section K7s
variable {m : K7} {T : N7} {sz sz' ng ng' un un' ol ol' lp lp' rz rz' hc hc' : Int} {tx tx' rs rs' : Nat → Int32} {q q' l l' : Nat → Int}
theorem K7R_eq (h : K7R m sz tx ng un ol q l lp rs rz hc) (e1 : sz' = sz) (e2 : tx' = tx) (e3 : ng' = ng) (e4 : un' = un) (e5 : ol' = ol) (e6 : q' = q) (e7 : l' = l) (e8 : lp' = lp) (e9 : rs' = rs) (e10 : rz' = rz) (e11 : hc' = hc) : K7R m sz' tx' ng' un' ol' q' l' lp' rs' rz' hc' := by
  subst e1 e2 e3 e4 e5 e6 e7 e8 e9 e10 e11
  exact h
theorem K7R_u0 (h : K7R m sz tx ng un ol q l lp rs rz hc) (hu : un' = 0) (e1 : sz' = sz) (e2 : tx' = tx) (e3 : ng' = ng) (hl : LMP hc' lp') (hs : STV rs' rz' hc') : K7R (setU m 0) sz' tx' ng' un' ol' q' l' lp' rs' rz' hc' := by
  obtain ⟨h1, h2, h3, -, -, -, -⟩ := h
  exact ⟨e1.trans h1, e2.trans h2, e3.trans h3, hu, RGL_0 (by omega), hl, hs⟩
theorem setU_eq {u : Int} (h : u = m.2.2.2.1) : setU m u = m := by subst h; rfl
/-- taken, or not: set and friends -/
theorem K7R_tn {c : Prop} {r : Int32} (h : K7R m sz tx ng un ol q l lp rs rz hc) (hs : (c ∧ r = 1 ∧ un' = 0) ∨ (¬ c ∧ r = 0 ∧ un' = un ∧ ol' = ol)) (e1 : sz' = sz) (e2 : tx' = tx) (e3 : ng' = ng) (e6 : q' = q) (e7 : l' = l) (hl : LMP hc' lp') (e9 : rs' = rs) (e10 : rz' = rz) (e11 : hc' = hc) : K7R (setU m (cIf c 0 m.2.2.2.1)) sz' tx' ng' un' ol' q' l' lp' rs' rz' hc' := by
  have h4 := h.2.2.2.1
  have h5 := h.2.2.2.2.1
  have h7 := h.2.2.2.2.2.2
  rcases hs with ⟨c1, -, c3⟩ | ⟨c1, -, c3, c4⟩
  · rw [cIf_t c1]
    exact K7R_u0 h c3 e1 e2 e3 hl (by rw [e9, e10, e11]; exact h7)
  · rw [cIf_f c1, setU_eq rfl]
    obtain ⟨h1, h2, h3, -, -, -, -⟩ := h
    subst e1 e2 e3 e6 e7 e9 e10 e11 c3 c4
    exact ⟨h1, h2, h3, h4, h5, hl, h7⟩
theorem K7R_house {w : Int32} {pe oi : Int} {pl pl' : Nat → Int32} (h : K7R T.2 sz tx ng un ol q l lp rs rz hc) (hk : hc = T.1.1.1.toInt) (hp : ∀ j : Nat, (j : Int) < T.1.1.1.toInt → pl j = T.1.1.2.1 j) (hs : HST hc hc' pl pl' w pe oi) (hu : (hc' = hc + 1 ∧ un' = 0) ∨ (hc' = hc ∧ un' = un ∧ ol' = ol)) (hl : LMP hc lp → LMP hc' lp') (e1 : sz' = sz) (e2 : tx' = tx) (e3 : ng' = ng) (e6 : q' = q) (e7 : l' = l) (e9 : rs' = rs) (e10 : rz' = rz) : K7R (T7h T w pe oi).2 sz' tx' ng' un' ol' q' l' lp' rs' rz' hc' := by
  have h4 := h.2.2.2.1
  have h5 := h.2.2.2.2.1
  have h6 := hl h.2.2.2.2.2.1
  have h7 := h.2.2.2.2.2.2
  show K7R (setU T.2 (cIf (HOK T.1.1.1.toInt T.1.1.2.1 w.toInt pe oi) 0 T.2.2.2.2.1)) sz' tx' ng' un' ol' q' l' lp' rs' rz' hc'
  have hk' := HOK_eq (w := w.toInt) (pe := pe) (oi := oi) hp
  rw [← hk] at hk' ⊢
  rcases hs with ⟨q1, q2, -, -⟩ | ⟨q1, q2, -⟩
  · rw [cIf_t (hk'.mp q1)]
    rcases hu with ⟨-, u2⟩ | ⟨u1, -, -⟩
    · exact K7R_u0 h u2 e1 e2 e3 h6 (by rw [e9, e10]; exact STV_le h7 (by omega) (Int.le_refl _))
    · omega
  · rw [cIf_f (fun z => q1 (hk'.mpr z)), setU_eq rfl]
    rcases hu with ⟨u1, -⟩ | ⟨u1, u2, u3⟩
    · omega
    · obtain ⟨h1, h2, h3, -, -, -, -⟩ := h
      subst e1 e2 e3 e6 e7 e9 e10 u1 u2 u3
      exact ⟨h1, h2, h3, h4, h5, h6, h7⟩
theorem K7R_nights {k : Int} {r : Int} (h : K7R T.2 sz tx ng un ol q l lp rs rz hc) (hk : hc = T.1.1.1.toInt) (hu6 : un' ≤ 6) (hs : (NGC hc ng k ∧ r ≠ -1 ∧ ng' = ng + k ∧ LMP hc' lp' ∧ (((un' = 6 ∧ 6 ≤ un + k) ∨ un' = un + k) ∧ RGL ol' un' ng' q' l' hc' un')) ∨ (¬ NGC hc ng k ∧ r = -1 ∧ ng' = ng ∧ un' = un ∧ ol' = ol ∧ q' = q ∧ l' = l ∧ lp' = lp)) (e1 : sz' = sz) (e2 : tx' = tx) (e9 : rs' = rs) (e10 : rz' = rz) (e11 : hc' = hc) : K7R (T7n T k).2 sz' tx' ng' un' ol' q' l' lp' rs' rz' hc' := by
  obtain ⟨h1, h2, h3, h4, h5, h6, h7⟩ := h
  unfold T7n
  subst e9 e10 e11
  rw [← hk, ← h3, ← h4]
  rcases hs with ⟨c, -, c2, c3, c4, c5⟩ | ⟨c, -, c2, c3, c4, c5, c6, c7⟩
  · rw [cIf_t c, cIf_t c]
    refine ⟨e1.trans h1, e2.trans h2, c2, ?_, c5, c3, h7⟩
    show un' = if 6 ≤ un + k then 6 else un + k
    by_cases z : 6 ≤ un + k
    · rw [if_pos z]; omega
    · rw [if_neg z]; omega
  · rw [cIf_f c, cIf_f c]
    subst c2 c3 c4 c5 c6 c7
    exact ⟨e1.trans h1, e2.trans h2, rfl, rfl, h5, h6, h7⟩
theorem K7R_undo {r : Int32} (h : K7R T.2 sz tx ng un ol q l lp rs rz hc) (hs : (1 ≤ un ∧ r = 1 ∧ un' = un - 1 ∧ ng' = ng - 1 ∧ LMP hc' lp') ∨ (un = 0 ∧ r = 0 ∧ un' = un ∧ ng' = ng ∧ lp' = lp)) (e1 : sz' = sz) (e2 : tx' = tx) (e5 : ol' = ol) (e6 : q' = q) (e7 : l' = l) (e9 : rs' = rs) (e10 : rz' = rz) (e11 : hc' = hc) : r = U7 T ∧ K7R (T7u T).2 sz' tx' ng' un' ol' q' l' lp' rs' rz' hc' := by
  obtain ⟨h1, h2, h3, h4, h5, h6, h7⟩ := h
  unfold U7 T7u
  subst e1 e2 e5 e6 e7 e9 e10 e11
  rw [← h4]
  rcases hs with ⟨c, c1, c2, c3, c4⟩ | ⟨c, c1, c2, c3, c4⟩
  · rw [if_neg (by omega), if_neg (by omega)]
    exact ⟨c1, h1, h2, by rw [← h3]; exact c3, c2, RGL_less h5 c2 c3 rfl, c4, h7⟩
  · rw [if_pos c, if_pos c]
    subst c2 c3 c4
    exact ⟨c1, h1, h2, h3, h4, h5, h6, h7⟩
theorem K7R_feed {a b c d e : Int32} (h : K7R T.2 sz tx ng un ol q l lp rs rz hc) (hs : (sz ≤ 380 ∧ tx' = FD tx sz.toNat a b c d e) ∨ (381 ≤ sz ∧ tx' = tx)) (hz : (sz ≤ 380 ∧ sz' = sz + 20) ∨ (381 ≤ sz ∧ sz' = sz)) (e3 : ng' = ng) (e4 : un' = un) (e5 : ol' = ol) (e6 : q' = q) (e7 : l' = l) (e8 : lp' = lp) (e9 : rs' = rs) (e10 : rz' = rz) (e11 : hc' = hc) : K7R (T7f T a b c d e).2 sz' tx' ng' un' ol' q' l' lp' rs' rz' hc' := by
  obtain ⟨h1, h2, h3, h4, h5⟩ := h
  unfold T7f
  subst e3 e4 e5 e6 e7 e8 e9 e10 e11
  rw [← h1, ← h2]
  by_cases z : sz ≤ 380
  · rw [if_pos z]
    refine ⟨?_, ?_, h3, h4, h5⟩
    · show sz' = sz + 20; omega
    · rcases hs with ⟨-, s⟩ | ⟨s, -⟩
      · exact s
      · omega
  · rw [if_neg z]
    refine ⟨?_, ?_, h3, h4, h5⟩
    · rw [← h1]; omega
    · rcases hs with ⟨s, -⟩ | ⟨-, s⟩
      · omega
      · rw [← h2]; exact s
theorem K7R_end {k : Int} (h : K7R T.2 sz tx ng un ol q l lp rs rz hc) (hz : (k ≤ -1 ∧ sz' = sz) ∨ (sz + 1 ≤ k ∧ sz' = sz) ∨ (0 ≤ k ∧ k ≤ sz ∧ sz' = k)) (e2 : tx' = tx) (e3 : ng' = ng) (e4 : un' = un) (e5 : ol' = ol) (e6 : q' = q) (e7 : l' = l) (e8 : lp' = lp) (e9 : rs' = rs) (e10 : rz' = rz) (e11 : hc' = hc) : K7R (T7e T k).2 sz' tx' ng' un' ol' q' l' lp' rs' rz' hc' := by
  obtain ⟨h1, h2⟩ := h
  unfold T7e
  subst e2 e3 e4 e5 e6 e7 e8 e9 e10 e11
  rw [← h1]
  by_cases z : 0 ≤ k ∧ k ≤ sz
  · rw [if_pos z]
    exact ⟨(show sz' = k from by omega), h2⟩
  · rw [if_neg z]
    exact ⟨by rw [← h1]; omega, h2⟩
/-- a text; the ring where nothing is taken -/
theorem K7R_text {k : Int} (h : K7R T.2 sz tx ng un ol q l lp rs rz hc) (hu : un' = X7 T k) (hz : sz' = 0) (hr : un' = 0 ∨ (un' = un ∧ ol' = ol)) (e2 : tx' = tx) (e3 : ng' = ng) (e6 : q' = q) (e7 : l' = l) (e8 : lp' = lp) (hs : STV rs' rz' hc') (e11 : hc' = hc) : K7R (T7x T k).2 sz' tx' ng' un' ol' q' l' lp' rs' rz' hc' := by
  obtain ⟨h1, h2, h3, h4, h5, h6, -⟩ := h
  subst e2 e3 e6 e7 e8 e11
  refine ⟨hz, h2, h3, hu, ?_, h6, hs⟩
  rcases hr with c | ⟨c, c2⟩
  · exact RGL_0 (by omega)
  · subst c2; rw [c]; exact h5
end K7s
/-! p2: STATE and FLAKES besides (draws, flakes, the image's) -/
abbrev K2 := Int32 × Int × Int32 × Int
abbrev N2 := N7 × K2
noncomputable def cIfD (c : Prop) (a b : Int32) : Int32 := @ite _ c (Classical.propDecidable c) a b
theorem cIfD_t {c : Prop} {a b : Int32} (h : c) : cIfD c a b = a := if_pos h
theorem cIfD_f {c : Prop} {a b : Int32} (h : ¬ c) : cIfD c a b = b := if_neg h
def T2s (T : N2) (v : Int32) : N2 := (T7s T.1, (v, T.2.2))
def V2 (T : N2) : Int32 := T.2.1
noncomputable def T2h (T : N2) (w : Int32) (pe oi : Int) : N2 := (T7h T.1 w pe oi, T.2)
noncomputable def T2set (T : N2) (what who v : Int) : N2 := (T7set T.1 what who v, (T.2.1, cIf (SETC T.1.1.1.1.toInt what who v ∧ what = 1) v T.2.2.1, T.2.2.2))
noncomputable def T2fr (T : N2) (a b : Int) : N2 := (T7fr T.1 a b, T.2)
noncomputable def T2n (T : N2) (k : Int) : N2 := (T7n T.1 k, (cIfD (NGC T.1.1.1.1.toInt T.1.2.2.2.1 k) (fwD T.2.2.1 T.2.1 k.toNat) T.2.1, T.2.2))
def T2u (T : N2) : N2 := (T7u T.1, (if T.1.2.2.2.2.1 = 0 then T.2.1 else bk1 T.2.2.1 T.2.1, T.2.2))
def T2f (T : N2) (a b c d e : Int32) : N2 := (T7f T.1 a b c d e, T.2)
def T2e (T : N2) (k : Int) : N2 := (T7e T.1 k, T.2)
def T2x (T : N2) (k : Int) : N2 := (T7x T.1 k, T.2)
noncomputable def T2c (T : N2) (ni se : Int) : N2 := (T7c T.1 ni se, T.2)
def E2i1 (T : N2) : K2 := (T.2.1, T.2.2.1, T.2.1, T.2.2.1)
def E2i0 (T : N2) : K2 := match T.1.1.2 with
  | none => T.2
  | some _ => (T.2.2.2.1, T.2.2.2.2, T.2.2.2.1, T.2.2.2.2)
def T2i (T : N2) (z : Int) : N2 := (T7i T.1 z, if z = 1 then E2i1 T else E2i0 T)
theorem T2i_1 {T : N2} {z : Int} (h : z = 1) : (T2i T z).2 = E2i1 T := if_pos h
theorem T2i_0 {T : N2} {z : Int} (h : z = 0) : (T2i T z).2 = E2i0 T := if_neg (by omega)
def WZ_B (cI cJ : ClassId) (cN : ClassId) (ad : Nat → Nat) (mv : Nat → Value) (mr : Nat → Nat) (mi : Nat → Int32) (mf : Nat → Nat → Int32) (mg : Nat → Nat → Int64) : va_W := [(mr 0, .inr (11, [.ref (mr 4), mv 0, .ref (mr 81), .ref (mr 91), .ref (mr 101), .ref (mr 109), .ref (mr 116), .ref (mr 122), .ref (mr 1), .int (mi 2), .int (mi 3), mv 1, .ref (mr 213)])), (mr 1, .inl (cN, 6, .inr (.inr (.inr (.inr (fun j => ([some (mr 135), some (mr 148), some (mr 161), some (mr 174), some (mr 187), some (mr 200)] : List (Option Nat)).getD j none)))))), (mr 4, .inr (10, [.ref (mr 14), .ref (mr 27), .ref (mr 36), .ref (mr 44), .ref (mr 51), .ref (mr 61), .ref (mr 71), .ref (mr 77), .ref (mr 5), .int (mi 6), .int (mi 7), .int (mi 8), .int (mi 9), .ref (mr 10), .ref (mr 11), .ref (mr 12), .ref (mr 13)])), (mr 5, .inl (cI, 900, .inl (mf 5))), (mr 10, .inl (cI, 10, .inl (mf 10))), (mr 11, .inl (cI, 10, .inl (mf 11))), (mr 12, .inl (cI, 10, .inl (mf 12))), (mr 13, .inl (cI, 10, .inl (mf 13))), (mr 14, .inr (4, [.ref (mr 15), .ref (mr 16), .ref (mr 17), .ref (mr 18), .ref (mr 19), .int (mi 20), .int (mi 21), .int (mi 22), .int (mi 23), .int (mi 24), .int (mi 25), .int (mi 26)])), (mr 15, .inl (cI, 10, .inl (mf 15))), (mr 16, .inl (cI, 10, .inl (mf 16))), (mr 17, .inl (cI, 10, .inl (mf 17))), (mr 18, .inl (cI, 10, .inl (mf 18))), (mr 19, .inl (cI, 10, .inl (mf 19))), (mr 27, .inr (1, [.ref (mr 28), .ref (mr 29), .ref (mr 30), .ref (mr 31), .ref (mr 32), .int (mi 33), .ref (mr 34), .ref (mr 35), mv 2])), (mr 28, .inl (cI, 10, .inl (mf 28))), (mr 29, .inl (cI, 10, .inl (mf 29))), (mr 30, .inl (cI, 10, .inl (mf 30))), (mr 31, .inl (cI, 10, .inl (mf 31))), (mr 32, .inl (cI, 10, .inl (mf 32))), (mr 34, .inl (cI, 10, .inl (mf 34))), (mr 35, .inl (cI, 10, .inl (mf 35))), (mr 36, .inr (5, [.ref (mr 37), .ref (mr 38), .ref (mr 39), .ref (mr 40), .int (mi 41), .ref (mr 42), .ref (mr 43)])), (mr 37, .inl (cI, 40, .inl (mf 37))), (mr 38, .inl (cI, 40, .inl (mf 38))), (mr 39, .inl (cI, 40, .inl (mf 39))), (mr 40, .inl (cI, 40, .inl (mf 40))), (mr 42, .inl (cI, 100, .inl (mf 42))), (mr 43, .inl (cI, 10, .inl (mf 43))), (mr 44, .inr (3, [.ref (mr 45), .ref (mr 46), .ref (mr 47), .ref (mr 48), .ref (mr 49), .int (mi 50)])), (mr 45, .inl (cI, 10, .inl (mf 45))), (mr 46, .inl (cI, 10, .inl (mf 46))), (mr 47, .inl (cI, 10, .inl (mf 47))), (mr 48, .inl (cI, 10, .inl (mf 48))), (mr 49, .inl (cI, 10, .inl (mf 49))), (mr 51, .inr (2, [.ref (mr 52), .int (mi 53), .ref (mr 54), .int (mi 55), .ref (mr 56), .ref (mr 57), .int (mi 58), .int (mi 59), .int (mi 60)])), (mr 52, .inl (cI, 400, .inl (mf 52))), (mr 54, .inl (cI, 33, .inl (mf 54))), (mr 56, .inl (cI, 64, .inl (mf 56))), (mr 57, .inl (cI, 64, .inl (mf 57))), (mr 61, .inr (2, [.ref (mr 62), .int (mi 63), .ref (mr 64), .int (mi 65), .ref (mr 66), .ref (mr 67), .int (mi 68), .int (mi 69), .int (mi 70)])), (mr 62, .inl (cI, 400, .inl (mf 62))), (mr 64, .inl (cI, 33, .inl (mf 64))), (mr 66, .inl (cI, 64, .inl (mf 66))), (mr 67, .inl (cI, 64, .inl (mf 67))), (mr 71, .inr (7, [.ref (mr 72), .int (mi 73), .ref (mr 74), .ref (mr 75), .int (mi 76)])), (mr 72, .inl (cI, 200, .inl (mf 72))), (mr 74, .inl (cI, 4, .inl (mf 74))), (mr 75, .inl (cI, 4, .inl (mf 75))), (mr 77, .inr (0, [.ref (mr 78), .ref (mr 79), .int (mi 80)])), (mr 78, .inl (cI, 8, .inl (mf 78))), (mr 79, .inl (cI, 8, .inl (mf 79))), (mr 81, .inr (8, [.ref (mr 82), .int (mi 83), .ref (ad (ti (mi 84))), .int (mi 85), .int (mi 86), .int (mi 87), .int (mi 88), .int (mi 89), .int (mi 90)])), (mr 82, .inl (cI, 400, .inl (mf 82))), (mr 91, .inr (2, [.ref (mr 92), .int (mi 93), .ref (mr 94), .int (mi 95), .ref (mr 96), .ref (mr 97), .int (mi 98), .int (mi 99), .int (mi 100)])), (mr 92, .inl (cI, 400, .inl (mf 92))), (mr 94, .inl (cI, 33, .inl (mf 94))), (mr 96, .inl (cI, 64, .inl (mf 96))), (mr 97, .inl (cI, 64, .inl (mf 97))), (mr 101, .inr (5, [.ref (mr 102), .ref (mr 103), .ref (mr 104), .ref (mr 105), .int (mi 106), .ref (mr 107), .ref (mr 108)])), (mr 102, .inl (cI, 40, .inl (mf 102))), (mr 103, .inl (cI, 40, .inl (mf 103))), (mr 104, .inl (cI, 40, .inl (mf 104))), (mr 105, .inl (cI, 40, .inl (mf 105))), (mr 107, .inl (cI, 100, .inl (mf 107))), (mr 108, .inl (cI, 10, .inl (mf 108))), (mr 109, .inr (3, [.ref (mr 110), .ref (mr 111), .ref (mr 112), .ref (mr 113), .ref (mr 114), .int (mi 115)])), (mr 110, .inl (cI, 10, .inl (mf 110))), (mr 111, .inl (cI, 10, .inl (mf 111))), (mr 112, .inl (cI, 10, .inl (mf 112))), (mr 113, .inl (cI, 10, .inl (mf 113))), (mr 114, .inl (cI, 10, .inl (mf 114))), (mr 116, .inr (7, [.ref (mr 117), .int (mi 118), .ref (mr 119), .ref (mr 120), .int (mi 121)])), (mr 117, .inl (cI, 200, .inl (mf 117))), (mr 119, .inl (cI, 4, .inl (mf 119))), (mr 120, .inl (cI, 4, .inl (mf 120))), (mr 122, .inr (4, [.ref (mr 123), .ref (mr 124), .ref (mr 125), .ref (mr 126), .ref (mr 127), .int (mi 128), .int (mi 129), .int (mi 130), .int (mi 131), .int (mi 132), .int (mi 133), .int (mi 134)])), (mr 123, .inl (cI, 10, .inl (mf 123))), (mr 124, .inl (cI, 10, .inl (mf 124))), (mr 125, .inl (cI, 10, .inl (mf 125))), (mr 126, .inl (cI, 10, .inl (mf 126))), (mr 127, .inl (cI, 10, .inl (mf 127))), (mr 135, .inr (4, [.ref (mr 136), .ref (mr 137), .ref (mr 138), .ref (mr 139), .ref (mr 140), .int (mi 141), .int (mi 142), .int (mi 143), .int (mi 144), .int (mi 145), .int (mi 146), .int (mi 147)])), (mr 136, .inl (cI, 10, .inl (mf 136))), (mr 137, .inl (cI, 10, .inl (mf 137))), (mr 138, .inl (cI, 10, .inl (mf 138))), (mr 139, .inl (cI, 10, .inl (mf 139))), (mr 140, .inl (cI, 10, .inl (mf 140))), (mr 148, .inr (4, [.ref (mr 149), .ref (mr 150), .ref (mr 151), .ref (mr 152), .ref (mr 153), .int (mi 154), .int (mi 155), .int (mi 156), .int (mi 157), .int (mi 158), .int (mi 159), .int (mi 160)])), (mr 149, .inl (cI, 10, .inl (mf 149))), (mr 150, .inl (cI, 10, .inl (mf 150))), (mr 151, .inl (cI, 10, .inl (mf 151))), (mr 152, .inl (cI, 10, .inl (mf 152))), (mr 153, .inl (cI, 10, .inl (mf 153))), (mr 161, .inr (4, [.ref (mr 162), .ref (mr 163), .ref (mr 164), .ref (mr 165), .ref (mr 166), .int (mi 167), .int (mi 168), .int (mi 169), .int (mi 170), .int (mi 171), .int (mi 172), .int (mi 173)])), (mr 162, .inl (cI, 10, .inl (mf 162))), (mr 163, .inl (cI, 10, .inl (mf 163))), (mr 164, .inl (cI, 10, .inl (mf 164))), (mr 165, .inl (cI, 10, .inl (mf 165))), (mr 166, .inl (cI, 10, .inl (mf 166))), (mr 174, .inr (4, [.ref (mr 175), .ref (mr 176), .ref (mr 177), .ref (mr 178), .ref (mr 179), .int (mi 180), .int (mi 181), .int (mi 182), .int (mi 183), .int (mi 184), .int (mi 185), .int (mi 186)])), (mr 175, .inl (cI, 10, .inl (mf 175))), (mr 176, .inl (cI, 10, .inl (mf 176))), (mr 177, .inl (cI, 10, .inl (mf 177))), (mr 178, .inl (cI, 10, .inl (mf 178))), (mr 179, .inl (cI, 10, .inl (mf 179))), (mr 187, .inr (4, [.ref (mr 188), .ref (mr 189), .ref (mr 190), .ref (mr 191), .ref (mr 192), .int (mi 193), .int (mi 194), .int (mi 195), .int (mi 196), .int (mi 197), .int (mi 198), .int (mi 199)])), (mr 188, .inl (cI, 10, .inl (mf 188))), (mr 189, .inl (cI, 10, .inl (mf 189))), (mr 190, .inl (cI, 10, .inl (mf 190))), (mr 191, .inl (cI, 10, .inl (mf 191))), (mr 192, .inl (cI, 10, .inl (mf 192))), (mr 200, .inr (4, [.ref (mr 201), .ref (mr 202), .ref (mr 203), .ref (mr 204), .ref (mr 205), .int (mi 206), .int (mi 207), .int (mi 208), .int (mi 209), .int (mi 210), .int (mi 211), .int (mi 212)])), (mr 201, .inl (cI, 10, .inl (mf 201))), (mr 202, .inl (cI, 10, .inl (mf 202))), (mr 203, .inl (cI, 10, .inl (mf 203))), (mr 204, .inl (cI, 10, .inl (mf 204))), (mr 205, .inl (cI, 10, .inl (mf 205))), (mr 213, .inr (9, [.ref (mr 214), .ref (mr 215), .ref (mr 216)])), (mr 214, .inl (cJ, 100, .inr (.inl (mg 214)))), (mr 215, .inl (cJ, 100, .inr (.inl (mg 215)))), (mr 216, .inl (cI, 10, .inl (mf 216)))]
def WPL (cI cJ : ClassId) (mr : Nat → Nat) (mi : Nat → Int32) (mf : Nat → Nat → Int32) (mg : Nat → Nat → Int64) : va_W := [(mr 217, .inr (6, [.int (mi 218), .int (mi 219), .long (mg 220 0), .ref (mr 221), .ref (mr 222), .ref (mr 223), .ref (mr 224), .int (mi 225), .ref (mr 226), .ref (mr 227)])), (mr 221, .inl (cJ, 10240, .inr (.inl (mg 221)))), (mr 222, .inl (cJ, 10, .inr (.inl (mg 222)))), (mr 223, .inl (cI, 100, .inl (mf 223))), (mr 224, .inl (cI, 10, .inl (mf 224))), (mr 226, .inl (cI, 10, .inl (mf 226))), (mr 227, .inl (cI, 10, .inl (mf 227)))]
def WPR (cI : ClassId) (mr : Nat → Nat) (mf : Nat → Nat → Int32) : va_W := [(mr 305, .inl (cI, 1024, .inl (mf 305)))]
def WKE (cI cJ : ClassId) (mr : Nat → Nat) (mi : Nat → Int32) (mf : Nat → Nat → Int32) (mg : Nat → Nat → Int64) : va_W := [(mr 228, .inr (10, [.ref (mr 238), .ref (mr 251), .ref (mr 260), .ref (mr 268), .ref (mr 275), .ref (mr 285), .ref (mr 295), .ref (mr 301), .ref (mr 229), .int (mi 230), .int (mi 231), .int (mi 232), .int (mi 233), .ref (mr 234), .ref (mr 235), .ref (mr 236), .ref (mr 237)])), (mr 229, .inl (cI, 900, .inl (mf 229))), (mr 234, .inl (cI, 10, .inl (mf 234))), (mr 235, .inl (cI, 10, .inl (mf 235))), (mr 236, .inl (cI, 10, .inl (mf 236))), (mr 237, .inl (cI, 10, .inl (mf 237))), (mr 238, .inr (4, [.ref (mr 239), .ref (mr 240), .ref (mr 241), .ref (mr 242), .ref (mr 243), .int (mi 244), .int (mi 245), .int (mi 246), .int (mi 247), .int (mi 248), .int (mi 249), .int (mi 250)])), (mr 239, .inl (cI, 10, .inl (mf 239))), (mr 240, .inl (cI, 10, .inl (mf 240))), (mr 241, .inl (cI, 10, .inl (mf 241))), (mr 242, .inl (cI, 10, .inl (mf 242))), (mr 243, .inl (cI, 10, .inl (mf 243))), (mr 251, .inr (1, [.ref (mr 252), .ref (mr 253), .ref (mr 254), .ref (mr 255), .ref (mr 256), .int (mi 257), .ref (mr 258), .ref (mr 259), .null])), (mr 252, .inl (cI, 10, .inl (mf 252))), (mr 253, .inl (cI, 10, .inl (mf 253))), (mr 254, .inl (cI, 10, .inl (mf 254))), (mr 255, .inl (cI, 10, .inl (mf 255))), (mr 256, .inl (cI, 10, .inl (mf 256))), (mr 258, .inl (cI, 10, .inl (mf 258))), (mr 259, .inl (cI, 10, .inl (mf 259))), (mr 260, .inr (5, [.ref (mr 261), .ref (mr 262), .ref (mr 263), .ref (mr 264), .int (mi 265), .ref (mr 266), .ref (mr 267)])), (mr 261, .inl (cI, 40, .inl (mf 261))), (mr 262, .inl (cI, 40, .inl (mf 262))), (mr 263, .inl (cI, 40, .inl (mf 263))), (mr 264, .inl (cI, 40, .inl (mf 264))), (mr 266, .inl (cI, 100, .inl (mf 266))), (mr 267, .inl (cI, 10, .inl (mf 267))), (mr 268, .inr (3, [.ref (mr 269), .ref (mr 270), .ref (mr 271), .ref (mr 272), .ref (mr 273), .int (mi 274)])), (mr 269, .inl (cI, 10, .inl (mf 269))), (mr 270, .inl (cI, 10, .inl (mf 270))), (mr 271, .inl (cI, 10, .inl (mf 271))), (mr 272, .inl (cI, 10, .inl (mf 272))), (mr 273, .inl (cI, 10, .inl (mf 273))), (mr 275, .inr (2, [.ref (mr 276), .int (mi 277), .ref (mr 278), .int (mi 279), .ref (mr 280), .ref (mr 281), .int (mi 282), .int (mi 283), .int (mi 284)])), (mr 276, .inl (cI, 400, .inl (mf 276))), (mr 278, .inl (cI, 33, .inl (mf 278))), (mr 280, .inl (cI, 64, .inl (mf 280))), (mr 281, .inl (cI, 64, .inl (mf 281))), (mr 285, .inr (2, [.ref (mr 286), .int (mi 287), .ref (mr 288), .int (mi 289), .ref (mr 290), .ref (mr 291), .int (mi 292), .int (mi 293), .int (mi 294)])), (mr 286, .inl (cI, 400, .inl (mf 286))), (mr 288, .inl (cI, 33, .inl (mf 288))), (mr 290, .inl (cI, 64, .inl (mf 290))), (mr 291, .inl (cI, 64, .inl (mf 291))), (mr 295, .inr (7, [.ref (mr 296), .int (mi 297), .ref (mr 298), .ref (mr 299), .int (mi 300)])), (mr 296, .inl (cI, 200, .inl (mf 296))), (mr 298, .inl (cI, 4, .inl (mf 298))), (mr 299, .inl (cI, 4, .inl (mf 299))), (mr 301, .inr (0, [.ref (mr 302), .ref (mr 303), .int (mi 304)])), (mr 302, .inl (cI, 8, .inl (mf 302))), (mr 303, .inl (cI, 8, .inl (mf 303)))]
def WB (cI cJ cN : ClassId) (ad : Nat → Nat) (bP bR bK : Bool) (mr : Nat → Nat) (mi : Nat → Int32) (mf : Nat → Nat → Int32) (mg : Nat → Nat → Int64) : va_W := WZ_B cI cJ cN ad (vl [cond bK (.ref (mr 228)) .null, cond bP (.ref (mr 217)) .null, cond bR (.ref (mr 305)) .null]) mr mi mf mg ++ (cond bP (WPL cI cJ mr mi mf mg) [] ++ (cond bR (WPR cI mr mf) [] ++ cond bK (WKE cI cJ mr mi mf mg) []))
def IF (mi : Nat → Int32) (mf : Nat → Nat → Int32) : Prop := (0 ≤ (mi 2).toInt ∧ (mi 2).toInt ≤ 5) ∧ (0 ≤ (mi 3).toInt ∧ (mi 3).toInt ≤ 6) ∧ (0 ≤ (mi 6).toInt ∧ (mi 6).toInt ≤ 1000) ∧ (0 ≤ (mi 8).toInt ∧ (mi 8).toInt ≤ 99) ∧ (-1 ≤ (mi 21).toInt ∧ (mi 21).toInt ≤ 9) ∧ (0 ≤ (mi 22).toInt ∧ (mi 22).toInt ≤ 9999) ∧ (0 ≤ (mi 25).toInt ∧ (mi 25).toInt ≤ 200) ∧ (0 ≤ (mi 33).toInt ∧ (mi 33).toInt ≤ 10) ∧ (0 ≤ (mi 41).toInt ∧ (mi 41).toInt ≤ 40) ∧ (0 ≤ (mi 50).toInt ∧ (mi 50).toInt ≤ 10) ∧ (0 ≤ (mi 73).toInt ∧ (mi 73).toInt ≤ 200) ∧ (0 ≤ (mi 80).toInt ∧ (mi 80).toInt ≤ 8) ∧ (0 ≤ (mi 83).toInt ∧ (mi 83).toInt ≤ 400) ∧ (0 ≤ (mi 84).toInt ∧ (mi 84).toInt ≤ 6) ∧ (0 ≤ (mi 89).toInt ∧ (mi 89).toInt ≤ 4) ∧ (-1 ≤ (mi 142).toInt ∧ (mi 142).toInt ≤ 9) ∧ (0 ≤ (mi 143).toInt ∧ (mi 143).toInt ≤ 9999) ∧ (0 ≤ (mi 146).toInt ∧ (mi 146).toInt ≤ 200) ∧ (-1 ≤ (mi 155).toInt ∧ (mi 155).toInt ≤ 9) ∧ (0 ≤ (mi 156).toInt ∧ (mi 156).toInt ≤ 9999) ∧ (0 ≤ (mi 159).toInt ∧ (mi 159).toInt ≤ 200) ∧ (-1 ≤ (mi 168).toInt ∧ (mi 168).toInt ≤ 9) ∧ (0 ≤ (mi 169).toInt ∧ (mi 169).toInt ≤ 9999) ∧ (0 ≤ (mi 172).toInt ∧ (mi 172).toInt ≤ 200) ∧ (-1 ≤ (mi 181).toInt ∧ (mi 181).toInt ≤ 9) ∧ (0 ≤ (mi 182).toInt ∧ (mi 182).toInt ≤ 9999) ∧ (0 ≤ (mi 185).toInt ∧ (mi 185).toInt ≤ 200) ∧ (-1 ≤ (mi 194).toInt ∧ (mi 194).toInt ≤ 9) ∧ (0 ≤ (mi 195).toInt ∧ (mi 195).toInt ≤ 9999) ∧ (0 ≤ (mi 198).toInt ∧ (mi 198).toInt ≤ 200) ∧ (-1 ≤ (mi 207).toInt ∧ (mi 207).toInt ≤ 9) ∧ (0 ≤ (mi 208).toInt ∧ (mi 208).toInt ≤ 9999) ∧ (0 ≤ (mi 211).toInt ∧ (mi 211).toInt ≤ 200) ∧ (0 ≤ (mi 230).toInt ∧ (mi 230).toInt ≤ 1000) ∧ (0 ≤ (mi 232).toInt ∧ (mi 232).toInt ≤ 99) ∧ (-1 ≤ (mi 245).toInt ∧ (mi 245).toInt ≤ 9) ∧ (0 ≤ (mi 246).toInt ∧ (mi 246).toInt ≤ 9999) ∧ (0 ≤ (mi 249).toInt ∧ (mi 249).toInt ≤ 200) ∧ (0 ≤ (mi 257).toInt ∧ (mi 257).toInt ≤ 10) ∧ (0 ≤ (mi 265).toInt ∧ (mi 265).toInt ≤ 40) ∧ (0 ≤ (mi 274).toInt ∧ (mi 274).toInt ≤ 10) ∧ (0 ≤ (mi 297).toInt ∧ (mi 297).toInt ≤ 200) ∧ (0 ≤ (mi 304).toInt ∧ (mi 304).toInt ≤ 8) ∧ p9 (mf 37) ∧ p9 (mf 38) ∧ l99 (mf 39) ∧ mdg (mf 42) ∧ m4 (mf 54) ∧ m4 (mf 64) ∧ b255 (mf 82) ∧ m4 (mf 94) ∧ p9 (mf 102) ∧ p9 (mf 103) ∧ l99 (mf 104) ∧ w9 (mf 224) ∧ s1k (mf 226) ∧ s1k (mf 227) ∧ p9 (mf 261) ∧ p9 (mf 262) ∧ l99 (mf 263) ∧ mdg (mf 266) ∧ m4 (mf 278) ∧ m4 (mf 288)
def KI (o : Option KV) (b : Bool) (n : Int32) (g : Nat → Int32) (c : Int32) : Prop := (b = false ∧ o = none) ∨ (∃ t : KV, b = true ∧ o = some t ∧ KH t n g c)
def KC (T : KT) (bK : Bool) (mi : Nat → Int32) (mf : Nat → Nat → Int32) : Prop := KH T.1 (mi 33) (mf 28) (mi 80) ∧ KI T.2 bK (mi 257) (mf 252) (mi 304)
def TIM (T : KT) (z : Int) : KT := if z = 1 then TI1 T else TI0 T
theorem TIM_1 {T : KT} {z : Int} (h : z = 1) : TIM T z = TI1 T := if_pos h
theorem TIM_0 {T : KT} {z : Int} (h : z = 0) : TIM T z = TI0 T := if_neg (by omega)
section KCs
variable {T : KT} {bK : Bool} {mi mi' : Nat → Int32} {mf mf' : Nat → Nat → Int32}
theorem KC_eq (h : KC T bK mi mf) (e1 : mi' 33 = mi 33) (e2 : mf' 28 = mf 28) (e3 : mi' 80 = mi 80) (e4 : mi' 257 = mi 257) (e5 : mf' 252 = mf 252) (e6 : mi' 304 = mi 304) : KC T bK mi' mf' := by
  unfold KC at h ⊢
  rw [e1, e2, e3, e4, e5, e6]
  exact h
theorem KC_house {w : Int32} {pe oi : Int} (h : KC T bK mi mf) (hs : HST (mi 33).toInt (mi' 33).toInt (mf 28) (mf' 28) w pe oi) (h0 : 0 ≤ (mi 33).toInt) (e3 : mi' 80 = mi 80) (e4 : mi' 257 = mi 257) (e5 : mf' 252 = mf 252) (e6 : mi' 304 = mi 304) : KC (TH T w pe oi) bK mi' mf' := by
  obtain ⟨q1, q2⟩ := KH_house h.1 hs h0 e3
  refine ⟨q1, ?_⟩
  rw [q2, e4, e5, e6]
  exact h.2
theorem KC_clue {r ni se : Int} (h : KC T bK mi mf) (hs : CST (sh1 (mi 33)) ni se (mi 80).toInt (mi' 80).toInt r) (h0 : 0 ≤ (mi 80).toInt) (e1 : mi' 33 = mi 33) (e2 : mf' 28 = mf 28) (e4 : mi' 257 = mi 257) (e5 : mf' 252 = mf 252) (e6 : mi' 304 = mi 304) : r = CA T ni se ∧ KC (TC T ni se) bK mi' mf' := by
  obtain ⟨q0, q1, q2⟩ := KH_clue h.1 hs h0 e1 e2
  refine ⟨q0, q1, ?_⟩
  rw [q2, e4, e5, e6]
  exact h.2
theorem KC_take (h : KC T bK mi mf) (hn : (mi 33).toInt ≤ 10) (e1 : mi' 33 = mi 33) (e2 : mf' 28 = mf 28) (e3 : mi' 80 = mi 80) (k1 : (mi' 257).toInt = (mi 33).toInt) (k2 : EQ10 (mf' 252) (mf 28)) (k3 : (mi' 304).toInt = (mi 80).toInt) : KC (TI1 T) true mi' mf' :=
  ⟨KH_eq h.1 e1 e2 e3, Or.inr ⟨T.1, rfl, rfl, KH_cp h.1 hn k1 k2 k3⟩⟩
theorem KC_give (h : KC T true mi mf) (hn : (mi 257).toInt ≤ 10) (k1 : (mi' 33).toInt = (mi 257).toInt) (k2 : EQ10 (mf' 28) (mf 252)) (k3 : (mi' 80).toInt = (mi 304).toInt) (e4 : mi' 257 = mi 257) (e5 : mf' 252 = mf 252) (e6 : mi' 304 = mi 304) : KC (TI0 T) true mi' mf' := by
  obtain ⟨-, ⟨q, -⟩ | ⟨t, -, ht, hk⟩⟩ := h
  · cases q
  · have e : TI0 T = (t, T.2) := by unfold TI0; rw [ht]
    rw [e]
    exact ⟨KH_cp hk hn k1 k2 k3, Or.inr ⟨t, rfl, ht, KH_eq hk e4 e5 e6⟩⟩
theorem KC_none (h : KC T false mi mf) (e1 : mi' 33 = mi 33) (e2 : mf' 28 = mf 28) (e3 : mi' 80 = mi 80) : KC (TI0 T) false mi' mf' := by
  obtain ⟨h1, ⟨-, q⟩ | ⟨t, ht, -, -⟩⟩ := h
  · have e : TI0 T = T := by unfold TI0; rw [q]
    rw [e]
    exact ⟨KH_eq h1 e1 e2 e3, Or.inl ⟨rfl, q⟩⟩
  · cases ht
end KCs
def K7Q (mi : Nat → Int32) : Nat → Int := rq6 (mi 143).toInt (mi 156).toInt (mi 169).toInt (mi 182).toInt (mi 195).toInt (mi 208).toInt
def K7L (mi : Nat → Int32) : Nat → Int := rq6 (mi 142).toInt (mi 155).toInt (mi 168).toInt (mi 181).toInt (mi 194).toInt (mi 207).toInt
def K7C (m : K7) (bK : Bool) (mi : Nat → Int32) (mf : Nat → Nat → Int32) : Prop := K7R m (mi 83).toInt (mf 82) (mi 22).toInt (mi 3).toInt (mi 2).toInt (K7Q mi) (K7L mi) (mi 21).toInt (mf 72) (mi 73).toInt (mi 33).toInt ∧ (bK = true → K7K m (mi 246).toInt (mi 245).toInt (mf 296) (mi 297).toInt (mi 257).toInt)
section K7Cs
variable {m m' : K7} {bK : Bool} {mi mi' : Nat → Int32} {mf mf' : Nat → Nat → Int32}
theorem K7C_mk (h1 : K7R m (mi 83).toInt (mf 82) (mi 22).toInt (mi 3).toInt (mi 2).toInt (K7Q mi) (K7L mi) (mi 21).toInt (mf 72) (mi 73).toInt (mi 33).toInt) (h2 : bK = true → K7K m (mi 246).toInt (mi 245).toInt (mf 296) (mi 297).toInt (mi 257).toInt) : K7C m bK mi mf := ⟨h1, h2⟩
theorem K7K_eq {mm mm' : K7} (h : bK = true → K7K mm (mi 246).toInt (mi 245).toInt (mf 296) (mi 297).toInt (mi 257).toInt) (hm : mm'.2.2.2.2 = mm.2.2.2.2) (e1 : mi' 246 = mi 246) (e2 : mi' 245 = mi 245) (e3 : mf' 296 = mf 296) (e4 : mi' 297 = mi 297) (e5 : mi' 257 = mi 257) : bK = true → K7K mm' (mi' 246).toInt (mi' 245).toInt (mf' 296) (mi' 297).toInt (mi' 257).toInt := by
  intro hb
  have q := h hb
  unfold K7K at q ⊢
  rw [e1, e2, e3, e4, e5, hm]
  exact q
theorem K7C_eq (h : K7C m bK mi mf) (e1 : mi' 83 = mi 83) (e2 : mf' 82 = mf 82) (e3 : mi' 22 = mi 22) (e4 : mi' 3 = mi 3) (e5 : mi' 2 = mi 2) (e6 : K7Q mi' = K7Q mi) (e7 : K7L mi' = K7L mi) (e8 : mi' 21 = mi 21) (e9 : mf' 72 = mf 72) (e10 : mi' 73 = mi 73) (e11 : mi' 33 = mi 33) (k1 : mi' 246 = mi 246) (k2 : mi' 245 = mi 245) (k3 : mf' 296 = mf 296) (k4 : mi' 297 = mi 297) (k5 : mi' 257 = mi 257) : K7C m bK mi' mf' := by
  unfold K7C at h ⊢
  rw [e1, e2, e3, e4, e5, e6, e7, e8, e9, e10, e11, k1, k2, k3, k4, k5]
  exact h
theorem KC_hc {T : KT} (h : KC T bK mi mf) : (mi 33).toInt = T.1.1.toInt := congrArg Int32.toInt h.1.1
theorem KC_hp {T : KT} (h : KC T bK mi mf) : ∀ j : Nat, (j : Int) < T.1.1.toInt → (mf 28) j = T.1.2.1 j := h.1.2.2
theorem K7C_state {T : N7} (h : K7C T.2 bK mi mf) (hu : (mi' 3).toInt = 0) (eTS : mi' 83 = mi 83) (eSG : mf' 82 = mf 82) (eNN : mi' 22 = mi 22) (eNL : mi' 21 = mi 21) (eRS : mf' 72 = mf 72) (eRZ : mi' 73 = mi 73) (eHC : mi' 33 = mi 33) (eKN : mi' 246 = mi 246) (eKL : mi' 245 = mi 245) (eKS : mf' 296 = mf 296) (eKZ : mi' 297 = mi 297) (eKH : mi' 257 = mi 257) : K7C (T7s T).2 bK mi' mf' := by
  exact K7C_mk (K7R_u0 h.1 hu (congrArg Int32.toInt eTS) eSG (congrArg Int32.toInt eNN) (by rw [eHC, eNL]; exact h.1.2.2.2.2.2.1) (by rw [eRS, eRZ, eHC]; exact h.1.2.2.2.2.2.2)) (K7K_eq h.2 rfl eKN eKL eKS eKZ eKH)
theorem K7C_tn {T : N7} {c : Prop} {r : Int32} (h : K7C T.2 bK mi mf) (hs : (c ∧ r = 1 ∧ (mi' 3).toInt = 0) ∨ (¬ c ∧ r = 0 ∧ (mi' 3).toInt = (mi 3).toInt ∧ (mi' 2).toInt = (mi 2).toInt)) (hl : LMP (mi 33).toInt (mi 21).toInt → LMP (mi' 33).toInt (mi' 21).toInt) (eTS : mi' 83 = mi 83) (eSG : mf' 82 = mf 82) (eNN : mi' 22 = mi 22) (eQ : K7Q mi' = K7Q mi) (eL : K7L mi' = K7L mi) (eRS : mf' 72 = mf 72) (eRZ : mi' 73 = mi 73) (eHC : mi' 33 = mi 33) (eKN : mi' 246 = mi 246) (eKL : mi' 245 = mi 245) (eKS : mf' 296 = mf 296) (eKZ : mi' 297 = mi 297) (eKH : mi' 257 = mi 257) : K7C (setU T.2 (cIf c 0 T.2.2.2.2.1)) bK mi' mf' := by
  exact K7C_mk (K7R_tn h.1 hs (congrArg Int32.toInt eTS) eSG (congrArg Int32.toInt eNN) eQ eL (hl h.1.2.2.2.2.2.1) eRS (congrArg Int32.toInt eRZ) (congrArg Int32.toInt eHC)) (K7K_eq h.2 rfl eKN eKL eKS eKZ eKH)
theorem K7C_house {T : N7} {w : Int32} {pe oi : Int} (h : K7C T.2 bK mi mf) (hc : KC T.1 bK mi mf) (hs : HST (mi 33).toInt (mi' 33).toInt (mf 28) (mf' 28) w pe oi) (hl : LMP (mi 33).toInt (mi 21).toInt → LMP (mi' 33).toInt (mi' 21).toInt) (hu : ((mi' 33).toInt = (mi 33).toInt + 1 ∧ (mi' 3).toInt = 0) ∨ ((mi' 33).toInt = (mi 33).toInt ∧ (mi' 3).toInt = (mi 3).toInt ∧ (mi' 2).toInt = (mi 2).toInt)) (eTS : mi' 83 = mi 83) (eSG : mf' 82 = mf 82) (eNN : mi' 22 = mi 22) (eQ : K7Q mi' = K7Q mi) (eL : K7L mi' = K7L mi) (eRS : mf' 72 = mf 72) (eRZ : mi' 73 = mi 73) (eKN : mi' 246 = mi 246) (eKL : mi' 245 = mi 245) (eKS : mf' 296 = mf 296) (eKZ : mi' 297 = mi 297) (eKH : mi' 257 = mi 257) : K7C (T7h T w pe oi).2 bK mi' mf' := by
  exact K7C_mk (K7R_house h.1 (KC_hc hc) (KC_hp hc) hs hu hl (congrArg Int32.toInt eTS) eSG (congrArg Int32.toInt eNN) eQ eL eRS (congrArg Int32.toInt eRZ)) (K7K_eq h.2 rfl eKN eKL eKS eKZ eKH)
theorem K7C_nights {T : N7} {k : Int} {r : Int} (h : K7C T.2 bK mi mf) (hc : KC T.1 bK mi mf) (h6 : (mi' 3).toInt ≤ 6) (hs : (NGC (mi 33).toInt (mi 22).toInt k ∧ r ≠ -1 ∧ (mi' 22).toInt = (mi 22).toInt + k ∧ LMP (mi' 33).toInt (mi' 21).toInt ∧ ((((mi' 3).toInt = 6 ∧ 6 ≤ (mi 3).toInt + k) ∨ (mi' 3).toInt = (mi 3).toInt + k) ∧ RGL (mi' 2).toInt (mi' 3).toInt (mi' 22).toInt (K7Q mi') (K7L mi') (mi' 33).toInt (mi' 3).toInt)) ∨ (¬ NGC (mi 33).toInt (mi 22).toInt k ∧ r = -1 ∧ (mi' 22).toInt = (mi 22).toInt ∧ (mi' 3).toInt = (mi 3).toInt ∧ (mi' 2).toInt = (mi 2).toInt ∧ K7Q mi' = K7Q mi ∧ K7L mi' = K7L mi ∧ (mi' 21).toInt = (mi 21).toInt)) (eTS : mi' 83 = mi 83) (eSG : mf' 82 = mf 82) (eRS : mf' 72 = mf 72) (eRZ : mi' 73 = mi 73) (eHC : mi' 33 = mi 33) (eKN : mi' 246 = mi 246) (eKL : mi' 245 = mi 245) (eKS : mf' 296 = mf 296) (eKZ : mi' 297 = mi 297) (eKH : mi' 257 = mi 257) : K7C (T7n T k).2 bK mi' mf' := by
  exact K7C_mk (K7R_nights h.1 (KC_hc hc) h6 hs (congrArg Int32.toInt eTS) eSG eRS (congrArg Int32.toInt eRZ) (congrArg Int32.toInt eHC)) (K7K_eq h.2 rfl eKN eKL eKS eKZ eKH)
theorem K7C_undo {T : N7} {r : Int32} (h : K7C T.2 bK mi mf) (hs : (1 ≤ (mi 3).toInt ∧ r = 1 ∧ (mi' 3).toInt = (mi 3).toInt - 1 ∧ (mi' 22).toInt = (mi 22).toInt - 1 ∧ LMP (mi' 33).toInt (mi' 21).toInt) ∨ ((mi 3).toInt = 0 ∧ r = 0 ∧ (mi' 3).toInt = (mi 3).toInt ∧ (mi' 22).toInt = (mi 22).toInt ∧ (mi' 21).toInt = (mi 21).toInt)) (eTS : mi' 83 = mi 83) (eSG : mf' 82 = mf 82) (eOL : mi' 2 = mi 2) (eQ : K7Q mi' = K7Q mi) (eL : K7L mi' = K7L mi) (eRS : mf' 72 = mf 72) (eRZ : mi' 73 = mi 73) (eHC : mi' 33 = mi 33) (eKN : mi' 246 = mi 246) (eKL : mi' 245 = mi 245) (eKS : mf' 296 = mf 296) (eKZ : mi' 297 = mi 297) (eKH : mi' 257 = mi 257) : r = U7 T ∧ K7C (T7u T).2 bK mi' mf' := by
  have z := K7R_undo h.1 hs (congrArg Int32.toInt eTS) eSG (congrArg Int32.toInt eOL) eQ eL eRS (congrArg Int32.toInt eRZ) (congrArg Int32.toInt eHC)
  exact ⟨z.1, K7C_mk z.2 (K7K_eq h.2 (by unfold T7u; split <;> rfl) eKN eKL eKS eKZ eKH)⟩
theorem K7C_feed {T : N7} {a b c d e : Int32} (h : K7C T.2 bK mi mf) (hs : ((mi 83).toInt ≤ 380 ∧ mf' 82 = FD (mf 82) ((mi 83).toInt).toNat a b c d e) ∨ (381 ≤ (mi 83).toInt ∧ mf' 82 = mf 82)) (hz : ((mi 83).toInt ≤ 380 ∧ (mi' 83).toInt = (mi 83).toInt + 20) ∨ (381 ≤ (mi 83).toInt ∧ (mi' 83).toInt = (mi 83).toInt)) (eNN : mi' 22 = mi 22) (eUN : mi' 3 = mi 3) (eOL : mi' 2 = mi 2) (eQ : K7Q mi' = K7Q mi) (eL : K7L mi' = K7L mi) (eNL : mi' 21 = mi 21) (eRS : mf' 72 = mf 72) (eRZ : mi' 73 = mi 73) (eHC : mi' 33 = mi 33) (eKN : mi' 246 = mi 246) (eKL : mi' 245 = mi 245) (eKS : mf' 296 = mf 296) (eKZ : mi' 297 = mi 297) (eKH : mi' 257 = mi 257) : K7C (T7f T a b c d e).2 bK mi' mf' := by
  exact K7C_mk (K7R_feed h.1 hs hz (congrArg Int32.toInt eNN) (congrArg Int32.toInt eUN) (congrArg Int32.toInt eOL) eQ eL (congrArg Int32.toInt eNL) eRS (congrArg Int32.toInt eRZ) (congrArg Int32.toInt eHC)) (K7K_eq h.2 (by unfold T7f; split <;> rfl) eKN eKL eKS eKZ eKH)
theorem K7C_end {T : N7} {k : Int} (h : K7C T.2 bK mi mf) (hz : (k ≤ -1 ∧ (mi' 83).toInt = (mi 83).toInt) ∨ ((mi 83).toInt + 1 ≤ k ∧ (mi' 83).toInt = (mi 83).toInt) ∨ (0 ≤ k ∧ k ≤ (mi 83).toInt ∧ (mi' 83).toInt = k)) (eSG : mf' 82 = mf 82) (eNN : mi' 22 = mi 22) (eUN : mi' 3 = mi 3) (eOL : mi' 2 = mi 2) (eQ : K7Q mi' = K7Q mi) (eL : K7L mi' = K7L mi) (eNL : mi' 21 = mi 21) (eRS : mf' 72 = mf 72) (eRZ : mi' 73 = mi 73) (eHC : mi' 33 = mi 33) (eKN : mi' 246 = mi 246) (eKL : mi' 245 = mi 245) (eKS : mf' 296 = mf 296) (eKZ : mi' 297 = mi 297) (eKH : mi' 257 = mi 257) : K7C (T7e T k).2 bK mi' mf' := by
  exact K7C_mk (K7R_end h.1 hz eSG (congrArg Int32.toInt eNN) (congrArg Int32.toInt eUN) (congrArg Int32.toInt eOL) eQ eL (congrArg Int32.toInt eNL) eRS (congrArg Int32.toInt eRZ) (congrArg Int32.toInt eHC)) (K7K_eq h.2 (by unfold T7e; split <;> rfl) eKN eKL eKS eKZ eKH)
theorem K7C_text {T : N7} {k : Int} (h : K7C T.2 bK mi mf) (hu : (mi' 3).toInt = X7 T k) (hz : (mi' 83).toInt = 0) (hr : (mi' 3).toInt = 0 ∨ ((mi' 3).toInt = (mi 3).toInt ∧ (mi' 2).toInt = (mi 2).toInt)) (hs : STV (mf 72) (mi 73).toInt (mi 33).toInt → STV (mf' 72) (mi' 73).toInt (mi' 33).toInt) (eSG : mf' 82 = mf 82) (eNN : mi' 22 = mi 22) (eQ : K7Q mi' = K7Q mi) (eL : K7L mi' = K7L mi) (eNL : mi' 21 = mi 21) (eHC : mi' 33 = mi 33) (eKN : mi' 246 = mi 246) (eKL : mi' 245 = mi 245) (eKS : mf' 296 = mf 296) (eKZ : mi' 297 = mi 297) (eKH : mi' 257 = mi 257) : K7C (T7x T k).2 bK mi' mf' := by
  exact K7C_mk (K7R_text h.1 hu hz hr eSG (congrArg Int32.toInt eNN) eQ eL (congrArg Int32.toInt eNL) (hs h.1.2.2.2.2.2.2) (congrArg Int32.toInt eHC)) (K7K_eq h.2 rfl eKN eKL eKS eKZ eKH)
theorem X7_c2 {T : N7} {k : Int} (h : K7C T.2 bK mi mf) (hc : KC T.1 bK mi mf) (hk : k = 2) : TXU (rdP 3 (mf 82) (mi 83).toInt (pathP 3 (mf 82) (mi 83).toInt ((mi 33).toInt - 1)) 256 40 401 0 0) (mi 3).toInt = X7 T k := by
  obtain ⟨⟨h1, h2, -, h4, -⟩, -⟩ := h
  unfold X7
  rw [if_pos hk, KC_hc hc, h1, h2, h4]
  exact TXU_same paths_rel
theorem X7_c3 {T : N7} {k : Int} (h : K7C T.2 bK mi mf) (hc : KC T.1 bK mi mf) (hk : k = 3) : TXU (rdP 4 (mf 82) (mi 83).toInt (needP 4 (mf 82) (mi 83).toInt ((mi 33).toInt - 1)) 256 10 401 0 0) (mi 3).toInt = X7 T k := by
  obtain ⟨⟨h1, h2, -, h4, -⟩, -⟩ := h
  unfold X7
  rw [if_neg (by omega), if_pos hk, KC_hc hc, h1, h2, h4]
  exact TXU_same needs_rel
theorem X7_c4 {T : N7} {k : Int} (h : K7C T.2 bK mi mf) (hc : KC T.1 bK mi mf) (hk : k = 4) : TXU (roundP 5 (mf 82) (mi 83).toInt ((mi 33).toInt - 1) 0) (mi 3).toInt = X7 T k := by
  obtain ⟨⟨h1, h2, -, h4, -⟩, -⟩ := h
  unfold X7
  rw [if_neg (by omega), if_neg (by omega), if_pos hk, KC_hc hc, h1, h2, h4]
  exact TXU_same round_rel
theorem X7_cx {T : N7} {k : Int} (h : K7C T.2 bK mi mf) (hk : k ≠ 2 ∧ k ≠ 3 ∧ k ≠ 4) : (mi 3).toInt = X7 T k := by
  obtain ⟨⟨-, -, -, h4, -⟩, -⟩ := h
  unfold X7
  rw [if_neg hk.1, if_neg hk.2.1, if_neg hk.2.2]
  exact h4
/-- the image is taken -/
theorem K7C_take {T : N7} (h : K7C T.2 bK mi mf) (e1 : mi' 83 = mi 83) (e2 : mf' 82 = mf 82) (e3 : mi' 22 = mi 22) (e4 : mi' 3 = mi 3) (e5 : mi' 2 = mi 2) (e6 : K7Q mi' = K7Q mi) (e7 : K7L mi' = K7L mi) (e8 : mi' 21 = mi 21) (e9 : mf' 72 = mf 72) (e10 : mi' 73 = mi 73) (e11 : mi' 33 = mi 33) (k1 : (mi' 246).toInt = (mi 22).toInt) (k2 : (mi' 245).toInt = (mi 21).toInt) (k3 : ∀ j : Nat, j < 200 → (mf' 296) j = (mf 72) j) (k4 : (mi' 297).toInt = (mi 73).toInt) (k5 : (mi' 257).toInt = (mi 33).toInt) : K7C (T7i1 T).2 true mi' mf' := by
  have q := h.1
  obtain ⟨h1, h2, h3, h4, h5, h6, h7⟩ := q
  refine K7C_mk ?_ (fun _ => ⟨k1.trans h3, by rw [k5, k2]; exact h6, by rw [k5]; exact STV_cp h7 k3 k4⟩)
  rw [e1, e2, e3, e4, e5, e6, e7, e8, e9, e10, e11]
  exact ⟨h1, h2, h3, h4, h5, h6, h7⟩
theorem K7C_give {T : N7} (h : K7C T.2 true mi mf) (hc : KC T.1 true mi mf) (e1 : mi' 83 = mi 83) (e2 : mf' 82 = mf 82) (hu : (mi' 3).toInt = 0) (k1 : (mi' 22).toInt = (mi 246).toInt) (k2 : (mi' 21).toInt = (mi 245).toInt) (k3 : ∀ j : Nat, j < 200 → (mf' 72) j = (mf 296) j) (k4 : (mi' 73).toInt = (mi 297).toInt) (k5 : (mi' 33).toInt = (mi 257).toInt) (e4 : mi' 246 = mi 246) (e5 : mi' 245 = mi 245) (e6 : mf' 296 = mf 296) (e7 : mi' 297 = mi 297) (e8 : mi' 257 = mi 257) : K7C (T7i0 T).2 true mi' mf' := by
  obtain ⟨⟨h1, h2, -⟩, hk⟩ := h
  obtain ⟨g1, g2, g3⟩ := hk rfl
  have e : (T7i0 T).2 = (T.2.1, T.2.2.1, T.2.2.2.2.2, 0, T.2.2.2.2.2) := by
    obtain ⟨-, ⟨q, -⟩ | ⟨t, -, ht, -⟩⟩ := hc
    · cases q
    · unfold T7i0; rw [ht]
  rw [e]
  refine K7C_mk ⟨by rw [e1]; exact h1, by rw [e2]; exact h2, k1.trans g1, hu, RGL_0 (by omega), by rw [k5, k2]; exact g2, by rw [k5]; exact STV_cp g3 k3 k4⟩ (fun _ => ?_)
  rw [e4, e5, e6, e7, e8]
  exact ⟨g1, g2, g3⟩
theorem K7C_none {T : N7} (h : K7C T.2 false mi mf) (hc : KC T.1 false mi mf) (e1 : mi' 83 = mi 83) (e2 : mf' 82 = mf 82) (e3 : mi' 22 = mi 22) (e4 : mi' 3 = mi 3) (e5 : mi' 2 = mi 2) (e6 : K7Q mi' = K7Q mi) (e7 : K7L mi' = K7L mi) (e8 : mi' 21 = mi 21) (e9 : mf' 72 = mf 72) (e10 : mi' 73 = mi 73) (e11 : mi' 33 = mi 33) : K7C (T7i0 T).2 false mi' mf' := by
  have e : (T7i0 T).2 = T.2 := by
    obtain ⟨-, ⟨-, q⟩ | ⟨t, ht, -, -⟩⟩ := hc
    · unfold T7i0; rw [q]
    · cases ht
  rw [e]
  refine K7C_mk ?_ (fun z => by cases z)
  rw [e1, e2, e3, e4, e5, e6, e7, e8, e9, e10, e11]
  exact h.1
theorem T7i0_1 {T : N7} : (T7i0 T).1 = TI0 T.1 := by unfold T7i0; split <;> rfl
theorem T7_give {T : N7} (h : KC T.1 true mi mf) (hn : (mi 257).toInt ≤ 10) (k1 : (mi' 33).toInt = (mi 257).toInt) (k2 : EQ10 (mf' 28) (mf 252)) (k3 : (mi' 80).toInt = (mi 304).toInt) (e4 : mi' 257 = mi 257) (e5 : mf' 252 = mf 252) (e6 : mi' 304 = mi 304) : KC (T7i0 T).1 true mi' mf' := by rw [T7i0_1]; exact KC_give h hn k1 k2 k3 e4 e5 e6
theorem T7_none {T : N7} (h : KC T.1 false mi mf) (e1 : mi' 33 = mi 33) (e2 : mf' 28 = mf 28) (e3 : mi' 80 = mi 80) : KC (T7i0 T).1 false mi' mf' := by rw [T7i0_1]; exact KC_none h e1 e2 e3
end K7Cs
/-- the class -/
def K2D (mi : Nat → Int32) : Nat → Int32 := rd6 (mi 145) (mi 158) (mi 171) (mi 184) (mi 197) (mi 210)
def K2C (e : K2) (bK : Bool) (mi : Nat → Int32) : Prop := (mi 24 = e.1 ∧ (mi 6).toInt = e.2.1 ∧ RGD (mi 2).toInt (mi 3).toInt (mi 24) (K2D mi) (mi 6).toInt (mi 3).toInt) ∧ (bK = true → mi 248 = e.2.2.1 ∧ (mi 230).toInt = e.2.2.2)
section K2Cs
variable {e : K2} {T : N2} {bK : Bool} {mi mi' : Nat → Int32} {mf mf' : Nat → Nat → Int32}
theorem K2C_eq (h : K2C e bK mi) (e1 : mi' 24 = mi 24) (e2 : mi' 6 = mi 6) (e3 : mi' 2 = mi 2) (e4 : mi' 3 = mi 3) (e5 : K2D mi' = K2D mi) (e6 : mi' 248 = mi 248) (e7 : mi' 230 = mi 230) : K2C e bK mi' := by
  unfold K2C at h ⊢
  rw [e1, e2, e3, e4, e5, e6, e7]
  exact h
/-- nothing can be undone then -/
theorem K2C_u0 {d : Int32} {f : Int} (h : K2C e bK mi) (hd : mi' 24 = d) (hf : (mi' 6).toInt = f) (hu : (mi' 3).toInt = 0) (e6 : mi' 248 = mi 248) (e7 : mi' 230 = mi 230) : K2C (d, f, e.2.2) bK mi' := by
  refine ⟨⟨hd, hf, RGD_0 (by omega)⟩, fun hb => ?_⟩
  rw [e6, e7]
  exact h.2 hb
theorem K2C_or (h : K2C e bK mi) (hu : (mi' 3).toInt = 0 ∨ ((mi' 3).toInt = (mi 3).toInt ∧ (mi' 2).toInt = (mi 2).toInt)) (e1 : mi' 24 = mi 24) (e2 : mi' 6 = mi 6) (e5 : K2D mi' = K2D mi) (e6 : mi' 248 = mi 248) (e7 : mi' 230 = mi 230) : K2C e bK mi' := by
  obtain ⟨⟨h1, h2, h3⟩, hk⟩ := h
  rcases hu with c | ⟨c, c2⟩
  · exact ⟨⟨e1.trans h1, by rw [e2]; exact h2, RGD_0 (by omega)⟩, by rw [e6, e7]; exact hk⟩
  · exact ⟨⟨e1.trans h1, by rw [e2]; exact h2, by rw [e1, e2, e5, c, c2]; exact h3⟩, by rw [e6, e7]; exact hk⟩
theorem K2C_set {w ho v : Int} {r : Int32} (h : K2C T.2 bK mi) (hh : (mi 33).toInt = T.1.1.1.1.toInt) (hs : (SETC (mi 33).toInt w ho v ∧ r = 1 ∧ (mi' 3).toInt = 0) ∨ (¬ SETC (mi 33).toInt w ho v ∧ r = 0 ∧ (mi' 3).toInt = (mi 3).toInt ∧ (mi' 2).toInt = (mi 2).toInt)) (hf : (r = 1 ∧ ((w = 1 ∧ (mi' 6).toInt = v) ∨ (w ≠ 1 ∧ (mi' 6).toInt = (mi 6).toInt))) ∨ (r = 0 ∧ (mi' 6).toInt = (mi 6).toInt)) (e1 : mi' 24 = mi 24) (e5 : K2D mi' = K2D mi) (e6 : mi' 248 = mi 248) (e7 : mi' 230 = mi 230) : K2C (T2set T w ho v).2 bK mi' := by
  have h10 : (1 : Int32) ≠ 0 := by decide +kernel
  unfold T2set
  rw [hh] at hs
  rcases hs with ⟨c, c1, c2⟩ | ⟨c, c1, c2, c3⟩
  · rcases hf with ⟨-, ⟨f1, f2⟩ | ⟨f1, f2⟩⟩ | ⟨f0, -⟩
    · rw [cIf_t ⟨c, f1⟩]
      exact K2C_u0 h (e1.trans h.1.1) f2 c2 e6 e7
    · rw [cIf_f (fun z => f1 z.2)]
      exact K2C_u0 h (e1.trans h.1.1) (f2.trans h.1.2.1) c2 e6 e7
    · exact absurd (c1.symm.trans f0) h10
  · rw [cIf_f (fun z => c z.1)]
    rcases hf with ⟨f0, -⟩ | ⟨-, f2⟩
    · exact absurd (f0.symm.trans c1) h10
    · exact K2C_or h (Or.inr ⟨c2, c3⟩) e1 (Int32.toInt_inj.mp f2) e5 e6 e7
theorem K2C_n {k : Int} {r : Int32} (h : K2C T.2 bK mi) (hh : (mi 33).toInt = T.1.1.1.1.toInt) (hg : (mi 22).toInt = T.1.2.2.2.1) (hc : (NGC (mi 33).toInt (mi 22).toInt k ∧ r.toInt ≠ -1) ∨ (¬ NGC (mi 33).toInt (mi 22).toInt k ∧ r.toInt = -1 ∧ (mi' 3).toInt = (mi 3).toInt ∧ (mi' 2).toInt = (mi 2).toInt)) (hd : (r.toInt ≠ -1 ∧ mi' 24 = fwD (mi 6).toInt (mi 24) k.toNat ∧ RGD (mi' 2).toInt (mi' 3).toInt (mi' 24) (K2D mi') (mi 6).toInt (mi' 3).toInt) ∨ (r.toInt = -1 ∧ mi' 24 = mi 24 ∧ K2D mi' = K2D mi)) (e2 : mi' 6 = mi 6) (e6 : mi' 248 = mi 248) (e7 : mi' 230 = mi 230) : K2C (T2n T k).2 bK mi' := by
  unfold T2n
  rw [← hh, ← hg]
  rcases hc with ⟨c, c1⟩ | ⟨c, c1, c2, c3⟩
  · rw [cIfD_t c]
    rcases hd with ⟨-, d1, d2⟩ | ⟨d0, -⟩
    · refine ⟨⟨?_, by rw [e2]; exact h.1.2.1, by rw [e2]; exact d2⟩, by rw [e6, e7]; exact h.2⟩
      rw [d1, h.1.1, h.1.2.1]
    · exact absurd d0 c1
  · rw [cIfD_f c]
    rcases hd with ⟨d0, -⟩ | ⟨-, d1, d2⟩
    · exact absurd c1 d0
    · exact K2C_or h (Or.inr ⟨c2, c3⟩) d1 e2 d2 e6 e7
theorem K2C_undo {r : Int32} (h : K2C T.2 bK mi) (hun : (mi 3).toInt = T.1.2.2.2.2.1) (hc : (1 ≤ (mi 3).toInt ∧ r = 1 ∧ (mi' 3).toInt = (mi 3).toInt - 1) ∨ ((mi 3).toInt = 0 ∧ r = 0 ∧ (mi' 3).toInt = (mi 3).toInt)) (hd : (r = 1 ∧ mi' 24 = bk1 (mi 6).toInt (mi 24)) ∨ (r = 0 ∧ mi' 24 = mi 24)) (e2 : mi' 6 = mi 6) (e3 : mi' 2 = mi 2) (e5 : K2D mi' = K2D mi) (e6 : mi' 248 = mi 248) (e7 : mi' 230 = mi 230) : K2C (T2u T).2 bK mi' := by
  have h10 : (1 : Int32) ≠ 0 := by decide +kernel
  unfold T2u
  rw [← hun]
  rcases hc with ⟨c, c1, c2⟩ | ⟨c, c1, c2⟩
  · rw [if_neg (by omega)]
    rcases hd with ⟨-, d1⟩ | ⟨d0, -⟩
    · refine ⟨⟨?_, by rw [e2]; exact h.1.2.1, ?_⟩, by rw [e6, e7]; exact h.2⟩
      · rw [d1, h.1.1, h.1.2.1]
      · rw [e2, e3, e5]
        exact RGD_less h.1.2.2 c2 d1 rfl
    · exact absurd (c1.symm.trans d0) h10
  · rw [if_pos c]
    rcases hd with ⟨d0, -⟩ | ⟨-, d1⟩
    · exact absurd (d0.symm.trans c1) h10
    · exact K2C_or h (Or.inr ⟨c2, congrArg Int32.toInt e3⟩) d1 e2 e5 e6 e7
theorem K2C_take (h : K2C T.2 bK mi) (e1 : mi' 24 = mi 24) (e2 : mi' 6 = mi 6) (e3 : mi' 2 = mi 2) (e4 : mi' 3 = mi 3) (e5 : K2D mi' = K2D mi) (k1 : (mi' 248).toInt = (mi 24).toInt) (k2 : (mi' 230).toInt = (mi 6).toInt) : K2C (E2i1 T) true mi' := by
  obtain ⟨⟨h1, h2, h3⟩, -⟩ := h
  refine ⟨⟨e1.trans h1, by rw [e2]; exact h2, by rw [e1, e2, e3, e4, e5]; exact h3⟩, fun _ => ⟨(Int32.toInt_inj.mp k1).trans h1, k2.trans h2⟩⟩
theorem K2C_give (h : K2C T.2 true mi) (hc : KC T.1.1 true mi mf) (hu : (mi' 3).toInt = 0) (k1 : (mi' 24).toInt = (mi 248).toInt) (k2 : (mi' 6).toInt = (mi 230).toInt) (e6 : mi' 248 = mi 248) (e7 : mi' 230 = mi 230) : K2C (E2i0 T) true mi' := by
  obtain ⟨-, hk⟩ := h
  obtain ⟨g1, g2⟩ := hk rfl
  have e : E2i0 T = (T.2.2.2.1, T.2.2.2.2, T.2.2.2.1, T.2.2.2.2) := by
    obtain ⟨-, ⟨q, -⟩ | ⟨t, -, ht, -⟩⟩ := hc
    · cases q
    · unfold E2i0; rw [ht]
  rw [e]
  refine ⟨⟨(Int32.toInt_inj.mp k1).trans g1, k2.trans g2, RGD_0 (by omega)⟩, fun _ => ?_⟩
  rw [e6, e7]
  exact ⟨g1, g2⟩
theorem K2C_none (h : K2C T.2 false mi) (hc : KC T.1.1 false mi mf) (e1 : mi' 24 = mi 24) (e2 : mi' 6 = mi 6) (e3 : mi' 2 = mi 2) (e4 : mi' 3 = mi 3) (e5 : K2D mi' = K2D mi) : K2C (E2i0 T) false mi' := by
  have e : E2i0 T = T.2 := by
    obtain ⟨-, ⟨-, q⟩ | ⟨t, ht, -, -⟩⟩ := hc
    · unfold E2i0; rw [q]
    · cases ht
  rw [e]
  refine ⟨?_, fun z => by cases z⟩
  rw [e1, e2, e3, e4, e5]
  exact h.1
end K2Cs
def CW (cI cJ cN : ClassId) (ad : Nat → Nat) (n : N2) (a : Nat) (ws : va_W) : Prop := ∃ (bP bR bK : Bool) (mr : Nat → Nat) (mi : Nat → Int32) (mf : Nat → Nat → Int32) (mg : Nat → Nat → Int64), ws = WB cI cJ cN ad bP bR bK mr mi mf mg ∧ mr 0 = a ∧ ((KC n.1.1 bK mi mf ∧ K7C n.1.2 bK mi mf) ∧ K2C n.2 bK mi) ∧ IF mi mf
