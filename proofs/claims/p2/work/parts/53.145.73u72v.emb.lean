/-! as emb_i, with the cells of the rest told one by one -/
theorem emr_w {D : va_G} {cI cJ : ClassId} {X tl wc w1 X' wr : va_W} {sz : Nat} {s t : State} (isC isR is : List Nat) (hC : isC.map (fun i => X[i]?) = wc.map some) (hR : isR.map (fun i => X[i]?) = wr.map some) (hn : va_nd isR = true) (hdis : ∀ i ∈ isR, i ∉ isC) (hp : is.map (fun i => (wr ++ w1)[i]?) = X'.map some) (hnp : va_nd is = true)
    (hsz : s.heap.size = sz) (hP : va_P D vwCl (X ++ tl) s.heap) (hD : va_D (fun _ => True) (X ++ tl)) (hB : QW D cI cJ (va_A wc sz) w1 t) (hF : va_F (va_A wc sz) s t) : QW D cI cJ (va_A (X ++ tl) sz) (X' ++ tl) t ∧ va_F (va_A (X ++ tl) sz) s t := by
  subst hsz
  obtain ⟨b1, b2, b3⟩ := hB
  have hA : ∀ q, va_A wc s.heap.size q → va_A (X ++ tl) s.heap.size q := fun q h => A_app (A_in isC hC q h)
  obtain ⟨j1, j2⟩ := va_joinQ hP (hD.self (sz := s.heap.size)) isC isR hC hR hn hdis hF.2 hA b1 b3
  exact ⟨⟨fun k q hq => j1 _ q (va_part is hp k q hq), b2, j2.part is hnp hp⟩, hF.1, fun q h1 h2 => hF.2 q h1 (fun h => h2 (hA q h))⟩
theorem emr_i {l : Launch} {y : MethodName} {W : List Cond} {rm : Room} {avs : List Value} {D : va_G} {cI cJ : ClassId} {sz mc ms : Nat} {ws X tl wc wr : va_W} {S : Type} {post : Int32 → S → Prop} {post' : Int32 → va_W → Prop} {w1 X' : S → va_W} {Xb Xs : State → Prop} (isC isR : List Nat) (is : S → List Nat) (hM : Met l y W rm (va_Pc avs (PW D cI cJ sz wc Xs)) (va_Qi post (fun u => QW D cI cJ (va_A wc sz) (w1 u)) (va_A wc sz)) mc ms (va_A wc sz)) (hws : ws = X ++ tl) (hC : isC.map (fun i => X[i]?) = wc.map some) (hnC : va_nd isC = true) (hR : isR.map (fun i => X[i]?) = wr.map some) (hn : va_nd isR = true) (hdis : ∀ i ∈ isR, i ∉ isC) (hp : ∀ u : S, (is u).map (fun i => (wr ++ w1 u)[i]?) = (X' u).map some) (hnp : ∀ u : S, va_nd (is u) = true)
    (hX : (∀ q, va_A wc sz q → va_A ws sz q) → ∀ U, Xb U → Xs U) (hpost : ∀ (r : Int32) (u : S), post r u → post' r (X' u ++ tl)) :
    Met l y W rm (va_Pc avs (PW D cI cJ sz ws Xb)) (va_Qi post' (fun w => QW D cI cJ (va_A ws sz) w) (va_A ws sz)) mc ms (va_A ws sz) := by
  subst hws
  have hA : ∀ q, va_A wc sz q → va_A (X ++ tl) sz q := fun q h => A_app (A_in isC hC q h)
  refine met_cq hM (emb_pre isC hC hnC (hX hA)) ?_ hA
  rintro a s o t ⟨e0, e1, eP, eK, eD, eX⟩ ⟨⟨r, u, ho, hp1, hB⟩, hF⟩
  obtain ⟨g1, g2⟩ := emr_w isC isR (is u) hC hR hn hdis (hp u) (hnp u) e1 eP eD hB hF
  exact ⟨⟨r, X' u ++ tl, ho, hpost r u hp1, g1⟩, g2⟩
theorem emr_l {l : Launch} {y : MethodName} {W : List Cond} {rm : Room} {avs : List Value} {D : va_G} {cI cJ : ClassId} {sz mc ms : Nat} {ws X tl wc wr : va_W} {S : Type} {post : Int64 → S → Prop} {post' : Int64 → va_W → Prop} {w1 X' : S → va_W} {Xb Xs : State → Prop} (isC isR : List Nat) (is : S → List Nat) (hM : Met l y W rm (va_Pc avs (PW D cI cJ sz wc Xs)) (va_Ql post (fun u => QW D cI cJ (va_A wc sz) (w1 u)) (va_A wc sz)) mc ms (va_A wc sz)) (hws : ws = X ++ tl) (hC : isC.map (fun i => X[i]?) = wc.map some) (hnC : va_nd isC = true) (hR : isR.map (fun i => X[i]?) = wr.map some) (hn : va_nd isR = true) (hdis : ∀ i ∈ isR, i ∉ isC) (hp : ∀ u : S, (is u).map (fun i => (wr ++ w1 u)[i]?) = (X' u).map some) (hnp : ∀ u : S, va_nd (is u) = true)
    (hX : (∀ q, va_A wc sz q → va_A ws sz q) → ∀ U, Xb U → Xs U) (hpost : ∀ (r : Int64) (u : S), post r u → post' r (X' u ++ tl)) :
    Met l y W rm (va_Pc avs (PW D cI cJ sz ws Xb)) (va_Ql post' (fun w => QW D cI cJ (va_A ws sz) w) (va_A ws sz)) mc ms (va_A ws sz) := by
  subst hws
  have hA : ∀ q, va_A wc sz q → va_A (X ++ tl) sz q := fun q h => A_app (A_in isC hC q h)
  refine met_cq hM (emb_pre isC hC hnC (hX hA)) ?_ hA
  rintro a s o t ⟨e0, e1, eP, eK, eD, eX⟩ ⟨⟨r, u, ho, hp1, hB⟩, hF⟩
  obtain ⟨g1, g2⟩ := emr_w isC isR (is u) hC hR hn hdis (hp u) (hnp u) e1 eP eD hB hF
  exact ⟨⟨r, X' u ++ tl, ho, hpost r u hp1, g1⟩, g2⟩
