def RF (mi : Nat → Int32) (mf : Nat → Nat → Int32) : Prop := (0 ≤ (mi 6).toInt ∧ (mi 6).toInt ≤ 10) ∧ (0 ≤ ((mf 1) 2).toInt ∧ ((mf 1) 2).toInt ≤ 150) ∧ (0 ≤ ((mf 1) 3).toInt ∧ ((mf 1) 3).toInt ≤ 9) ∧ (0 ≤ ((mf 1) 5).toInt ∧ ((mf 1) 5).toInt ≤ 200) ∧ (0 ≤ (mi 44).toInt ∧ (mi 44).toInt ≤ 10) ∧ (0 ≤ (mi 42).toInt ∧ (mi 42).toInt ≤ 40) ∧ (0 ≤ ((mf 27) 0).toInt ∧ ((mf 27) 0).toInt ≤ 16) ∧ (0 ≤ ((mf 27) 1).toInt ∧ ((mf 27) 1).toInt ≤ 16) ∧ (0 ≤ (mi 49).toInt ∧ (mi 49).toInt ≤ 200) ∧ (-29 ≤ (mi 15).toInt ∧ (mi 15).toInt ≤ 69) ∧ (0 ≤ (mi 17).toInt ∧ (mi 17).toInt ≤ 8) ∧ (0 ≤ (mi 3).toInt ∧ (mi 3).toInt ≤ 6) ∧ (0 ≤ (mi 21).toInt ∧ (mi 21).toInt ≤ 400) ∧ (32 ≤ ((mf 26) 153).toInt ∧ ((mf 26) 153).toInt ≤ 32) ∧ (0 ≤ ((mf 1) 0).toInt ∧ ((mf 1) 0).toInt ≤ 9999) ∧ (0 ≤ (mi 5).toInt ∧ (mi 5).toInt ≤ 0) ∧ (rowsOK (mi 3).toInt (mi 6).toInt (mf 2)) ∧ (pplOK (mi 6).toInt (mf 8)) ∧ (LW 0 0 (mf 31) (mf 32) (mf 28) (mf 29) (mf 30) ((mf 27) 0).toInt 400) ∧ (LW 16 400 (mf 31) (mf 32) (mf 28) (mf 29) (mf 30) ((mf 27) 1).toInt 400) ∧ (rndOK (mi 49).toInt (mi 6).toInt (mf 50)) ∧ ((((mi 6).toInt = 0 ∧ ((mf 1) 3).toInt = 0) ∨ ((mf 1) 3).toInt < (mi 6).toInt)) ∧ ((∀ j : Nat, j < 154 → (mf 26) j = w0 j)) ∧ (IMGO ((mi 67).toInt) (mf 69)) ∧ (RKN (mi 3).toInt (((mf 1) 0).toInt) (mf 2)) ∧ (RKD (mi 3).toInt ((mf 1) 1) (mi 12).toInt (mf 2)) ∧ pathsOK (mf 43) ∧ b255 (mf 20) ∧ ((mi 3).toInt ≤ ((mf 1) 0).toInt)
def KG (t : KV) (im : Nat → Int32) : Prop := im 66 = t.1 ∧ im 121 = t.2.2 ∧ ∀ j : Nat, (j : Int) < t.1.toInt → im (67 + 5 * j) = t.2.1 j
def KJ (o : Option KV) (h : Int32) (im : Nat → Int32) : Prop := (h.toInt = 0 ∧ o = none) ∨ (∃ t : KV, h.toInt ≠ 0 ∧ o = some t ∧ KG t im)
def KR (T : KT) (mi : Nat → Int32) (mf : Nat → Nat → Int32) : Prop := KH T.1 (mi 6) (mf 7) (mi 17) ∧ KJ T.2 (mi 67) (mf 69)
section KRs
variable {T : KT} {mi mi' : Nat → Int32} {mf mf' : Nat → Nat → Int32}
theorem KR_house {w : Int32} {pe oi : Int} (h : KR T mi mf) (hs : HST (mi 6).toInt (mi' 6).toInt (mf 7) (mf' 7) w pe oi) (h0 : 0 ≤ (mi 6).toInt) (e3 : mi' 17 = mi 17) (e4 : mi' 67 = mi 67) (e5 : mf' 69 = mf 69) : KR (TH T w pe oi) mi' mf' := by
  obtain ⟨q1, q2⟩ := KH_house h.1 hs h0 e3
  refine ⟨q1, ?_⟩
  rw [q2, e4, e5]
  exact h.2
theorem KR_clue {r ni se : Int} (h : KR T mi mf) (hs : CST (sh1 (mi 6)) ni se (mi 17).toInt (mi' 17).toInt r) (h0 : 0 ≤ (mi 17).toInt) (e1 : mi' 6 = mi 6) (e2 : mf' 7 = mf 7) (e4 : mi' 67 = mi 67) (e5 : mf' 69 = mf 69) : r = CA T ni se ∧ KR (TC T ni se) mi' mf' := by
  obtain ⟨q0, q1, q2⟩ := KH_clue h.1 hs h0 e1 e2
  refine ⟨q0, q1, ?_⟩
  rw [q2, e4, e5]
  exact h.2
theorem KR_take (h : KR T mi mf) (hn : (mi 6).toInt ≤ 10) (e1 : mi' 6 = mi 6) (e2 : mf' 7 = mf 7) (e3 : mi' 17 = mi 17) (k0 : (mi' 67).toInt = 1) (k1 : ((mf' 69) 66).toInt = (mi 6).toInt) (k2 : SGT (mf' 69) (mf 7) 0 67 5 10) (k3 : ((mf' 69) 121).toInt = (mi 17).toInt) : KR (TI1 T) mi' mf' := by
  refine ⟨KH_eq h.1 e1 e2 e3, Or.inr ⟨T.1, by omega, rfl, ?_⟩⟩
  obtain ⟨h1, h2, h3⟩ := h.1
  exact ⟨by rw [← h1]; exact Int32.toInt_inj.mp k1, by rw [← h2]; exact Int32.toInt_inj.mp k3, fun j hj => by rw [SGT_z k2 (by rw [← h1] at hj; omega)]; exact h3 j hj⟩
theorem KR_give (h : KR T mi mf) (hb : (mi' 6).toInt ≤ 10) (k : ((mi 67).toInt = 0 ∧ (mi' 67).toInt = 0 ∧ (mi' 6).toInt = (mi 6).toInt ∧ mf' 7 = mf 7 ∧ (mi' 17).toInt = (mi 17).toInt) ∨ ((mi 67).toInt ≠ 0 ∧ (mi' 67).toInt ≠ 0 ∧ (mi' 6).toInt = ((mf 69) 66).toInt ∧ SGT (mf 69) (mf' 7) 0 67 5 10 ∧ (mi' 17).toInt = ((mf 69) 121).toInt)) (e5 : mf' 69 = mf 69) : KR (TI0 T) mi' mf' := by
  obtain ⟨h1, ⟨q1, q2⟩ | ⟨t, q1, q2, q3, q4, q5⟩⟩ := h
  · obtain ⟨-, k1, k2, k3, k4⟩ | ⟨k1, -⟩ := k
    · have e : TI0 T = T := by unfold TI0; rw [q2]
      rw [e]
      exact ⟨KH_eq h1 (Int32.toInt_inj.mp k2) k3 (Int32.toInt_inj.mp k4), Or.inl ⟨k1, q2⟩⟩
    · exact absurd q1 k1
  · obtain ⟨k1, -⟩ | ⟨-, k1, k2, k3, k4⟩ := k
    · exact absurd k1 q1
    · have e : TI0 T = (t, T.2) := by unfold TI0; rw [q2]
      rw [e]
      have en : mi' 6 = t.1 := (Int32.toInt_inj.mp k2).trans q3
      refine ⟨⟨en, (Int32.toInt_inj.mp k4).trans q4, fun j hj => ?_⟩, Or.inr ⟨t, k1, q2, ?_⟩⟩
      · rw [← SGT_z k3 (by rw [← en] at hj; omega)]; exact q5 j hj
      · rw [e5]; exact ⟨q3, q4, q5⟩
end KRs
def K7S (m : K7) (mi : Nat → Int32) (mf : Nat → Nat → Int32) : Prop := K7T m (mi 21).toInt (mf 20) ((mf 1) 0).toInt (mi 3).toInt (mi 67).toInt ((mf 69) 0).toInt
theorem KJ_o {T : KT} {h : Int32} {im : Nat → Int32} (q : KJ T.2 h im) : (h.toInt = 0 ∧ T.2 = none) ∨ (h.toInt ≠ 0 ∧ ∃ t : KV, T.2 = some t) := by
  rcases q with ⟨q1, q2⟩ | ⟨t, q1, q2, -⟩
  · exact Or.inl ⟨q1, q2⟩
  · exact Or.inr ⟨q1, t, q2⟩
theorem TXU_01 {s : Except (Int × Int) Int} {u u' : Int} (h : u' = TXU s u) : u' = 0 ∨ u' = u := by
  cases s with
  | ok p => exact Or.inl h
  | error e => exact Or.inr h
/-- the reference: STATE and FLAKES -/
def K2T (e : K2) (dr : Int32) (fl hi : Int) (i1 : Int32) (iF : Int) : Prop := (dr = e.1 ∧ fl = e.2.1) ∧ (hi ≠ 0 → i1 = e.2.2.1 ∧ iF = e.2.2.2)
def K2S (e : K2) (mi : Nat → Int32) (mf : Nat → Nat → Int32) : Prop := K2T e ((mf 1) 1) (mi 12).toInt (mi 67).toInt ((mf 69) 1) ((mf 69) 117).toInt
section K2Ts
variable {T : N2} {dr dr' i1 i1' : Int32} {fl fl' hi hi' iF iF' hc : Int}
theorem K2T_eq {e : K2} (h : K2T e dr fl hi i1 iF) (e1 : dr' = dr) (e2 : fl' = fl) : K2T e dr' fl' hi i1 iF := by subst e1 e2; exact h
theorem K2T_mk {e : K2} {d : Int32} {f : Int} (h : K2T e dr fl hi i1 iF) (e1 : dr' = d) (e2 : fl' = f) : K2T (d, f, e.2.2) dr' fl' hi i1 iF := ⟨⟨e1, e2⟩, h.2⟩
theorem K2T_set {w ho v : Int} {r : Int32} {P : Prop} (h : K2T T.2 dr fl hi i1 iF) (hh : hc = T.1.1.1.1.toInt) (hs : (SETC hc w ho v ∧ r = 1 ∧ P) ∨ (¬ SETC hc w ho v ∧ r = 0 ∧ P)) (hf : (r = 1 ∧ ((w = 1 ∧ fl' = v) ∨ (w ≠ 1 ∧ fl' = fl))) ∨ (r = 0 ∧ fl' = fl)) (e1 : dr' = dr) : K2T (T2set T w ho v).2 dr' fl' hi i1 iF := by
  have h10 : (1 : Int32) ≠ 0 := by decide +kernel
  unfold T2set
  rw [hh] at hs
  rcases hs with ⟨c, c1, -⟩ | ⟨c, c1, -⟩
  · rcases hf with ⟨-, ⟨f1, f2⟩ | ⟨f1, f2⟩⟩ | ⟨f0, -⟩
    · rw [cIf_t ⟨c, f1⟩]
      exact K2T_mk h (e1.trans h.1.1) f2
    · rw [cIf_f (fun z => f1 z.2)]
      exact K2T_mk h (e1.trans h.1.1) (f2.trans h.1.2)
    · exact absurd (c1.symm.trans f0) h10
  · rw [cIf_f (fun z => c z.1)]
    rcases hf with ⟨f0, -⟩ | ⟨-, f2⟩
    · exact absurd (f0.symm.trans c1) h10
    · exact K2T_eq h e1 f2
theorem K2T_n {k : Int} {r : Int32} {ng : Int} {P Q : Prop} (h : K2T T.2 dr fl hi i1 iF) (hh : hc = T.1.1.1.1.toInt) (hg : ng = T.1.2.2.2.1) (hc' : (NGC hc ng k ∧ r.toInt ≠ -1 ∧ P) ∨ (¬ NGC hc ng k ∧ r.toInt = -1 ∧ Q)) (hd : (r.toInt ≠ -1 ∧ dr' = fwD fl dr k.toNat) ∨ (r.toInt = -1 ∧ dr' = dr)) : K2T (T2n T k).2 dr' fl hi i1 iF := by
  unfold T2n
  rw [← hh, ← hg]
  rcases hc' with ⟨c, c1, -⟩ | ⟨c, c1, -⟩
  · rw [cIfD_t c]
    rcases hd with ⟨-, d1⟩ | ⟨d0, -⟩
    · exact K2T_mk h (by rw [d1, h.1.1, h.1.2]) h.1.2
    · exact absurd d0 c1
  · rw [cIfD_f c]
    rcases hd with ⟨d0, -⟩ | ⟨-, d1⟩
    · exact absurd c1 d0
    · exact K2T_eq h d1 rfl
theorem K2T_undo {r : Int32} {un : Int} {P Q : Prop} (h : K2T T.2 dr fl hi i1 iF) (hun : un = T.1.2.2.2.2.1) (hc' : (r = 0 ∧ un = 0 ∧ P) ∨ (r = 1 ∧ 1 ≤ un ∧ Q)) (hd : (r = 1 ∧ dr' = bk1 fl dr) ∨ (r = 0 ∧ dr' = dr)) : K2T (T2u T).2 dr' fl hi i1 iF := by
  have h10 : (1 : Int32) ≠ 0 := by decide +kernel
  unfold T2u
  rw [← hun]
  rcases hc' with ⟨c1, c, -⟩ | ⟨c1, c, -⟩
  · rw [if_pos c]
    rcases hd with ⟨d0, -⟩ | ⟨-, d1⟩
    · exact absurd (d0.symm.trans c1) h10
    · exact K2T_eq h d1 rfl
  · rw [if_neg (by omega)]
    rcases hd with ⟨-, d1⟩ | ⟨d0, -⟩
    · exact K2T_mk h (by rw [d1, h.1.1, h.1.2]) h.1.2
    · exact absurd (c1.symm.trans d0) h10
theorem K2T_take (h : K2T T.2 dr fl hi i1 iF) (k1 : i1' = dr) (k2 : iF' = fl) : K2T (E2i1 T) dr fl hi' i1' iF' := ⟨h.1, fun _ => ⟨k1.trans h.1.1, k2.trans h.1.2⟩⟩
theorem K2T_give (h : K2T T.2 dr fl hi i1 iF) (ho : (hi = 0 ∧ T.1.1.2 = none) ∨ (hi ≠ 0 ∧ ∃ t : KV, T.1.1.2 = some t)) (k : (hi = 0 ∧ dr' = dr ∧ fl' = fl) ∨ (hi ≠ 0 ∧ dr' = i1 ∧ fl' = iF)) (eh : (hi = 0 ∧ hi' = 0) ∨ (hi ≠ 0 ∧ hi' ≠ 0)) : K2T (E2i0 T) dr' fl' hi' i1 iF := by
  rcases ho with ⟨o1, o2⟩ | ⟨o1, t, o2⟩
  · have e : E2i0 T = T.2 := by unfold E2i0; rw [o2]
    rw [e]
    rcases k with ⟨-, k2, k3⟩ | ⟨k1, -⟩
    · exact ⟨⟨k2.trans h.1.1, k3.trans h.1.2⟩, fun z => absurd z (by omega)⟩
    · exact absurd o1 k1
  · have e : E2i0 T = (T.2.2.2.1, T.2.2.2.2, T.2.2.2.1, T.2.2.2.2) := by unfold E2i0; rw [o2]
    rw [e]
    rcases k with ⟨k1, -⟩ | ⟨-, k2, k3⟩
    · exact absurd k1 o1
    · exact ⟨⟨k2.trans (h.2 o1).1, k3.trans (h.2 o1).2⟩, fun _ => h.2 o1⟩
end K2Ts
def RW (cI cJ : ClassId) (n : N2) (b : Nat) (ws : va_W) : Prop := ∃ (mr : Nat → Nat) (mi : Nat → Int32) (mf : Nat → Nat → Int32) (mg : Nat → Nat → Int64), ws = MW cI cJ b mr mi mf mg ∧ ((KR n.1.1 mi mf ∧ K7S n.1.2 mi mf) ∧ K2S n.2 mi mf) ∧ RF mi mf
theorem ref_i {l : Launch} {y : MethodName} {W : List Cond} {rm : Room} {avs : List Value} {D : va_G} {cI cJ : ClassId} {sz mc ms : Nat} {ws : va_W} {S : Type} {post : Int32 → S → Prop} {post' : Int32 → va_W → Prop} {w1 : S → va_W}
    (hM : Met l y W rm (va_Pc avs (PW D cI cJ sz ws xT)) (va_Qi post (fun u => QW D cI cJ (va_A ws sz) (w1 u)) (va_A ws sz)) mc ms (va_A ws sz)) (hpost : ∀ (r : Int32) (u : S), post r u → post' r (w1 u)) :
    Met l y W rm (va_Pc avs (PW D cI cJ sz ws xT)) (va_Qi post' (fun w => QW D cI cJ (va_A ws sz) w) (va_A ws sz)) mc ms (va_A ws sz) := by
  refine met_cq hM (fun _ _ h => h) ?_ (fun _ h => h)
  rintro a s o t _ ⟨⟨r, u, ho, hp1, hB⟩, hF⟩
  exact ⟨⟨r, w1 u, ho, hpost r u hp1, hB⟩, hF⟩
theorem ref_l {l : Launch} {y : MethodName} {W : List Cond} {rm : Room} {avs : List Value} {D : va_G} {cI cJ : ClassId} {sz mc ms : Nat} {ws : va_W} {S : Type} {post : Int64 → S → Prop} {post' : Int64 → va_W → Prop} {w1 : S → va_W}
    (hM : Met l y W rm (va_Pc avs (PW D cI cJ sz ws xT)) (va_Ql post (fun u => QW D cI cJ (va_A ws sz) (w1 u)) (va_A ws sz)) mc ms (va_A ws sz)) (hpost : ∀ (r : Int64) (u : S), post r u → post' r (w1 u)) :
    Met l y W rm (va_Pc avs (PW D cI cJ sz ws xT)) (va_Ql post' (fun w => QW D cI cJ (va_A ws sz) w) (va_A ws sz)) mc ms (va_A ws sz) := by
  refine met_cq hM (fun _ _ h => h) ?_ (fun _ h => h)
  rintro a s o t _ ⟨⟨r, u, ho, hp1, hB⟩, hF⟩
  exact ⟨⟨r, w1 u, ho, hpost r u hp1, hB⟩, hF⟩
set_option maxHeartbeats 8000000 in
set_option maxRecDepth 100000 in
theorem m_state (l : Launch) (D : va_G) (cI cJ : ClassId) (sz : Nat) (n : N2) (b : Nat) (ws : va_W) (hc : RW cI cJ n b ws) (z_v : Int32)  : Met l yX12_state (Cond.code yX12_state cX12_state 3 (some .int) :: GW) ({ frames := 1, cells := 0, slots := 0, locals := 40 } : Room) (va_Pc [.ref b, .int z_v] (PW D cI cJ sz ws xT)) (va_Qi (fun (r : Int32) (w : va_W) => r = V2 n ∧ RW cI cJ (T2s n z_v) b w) (fun w => QW D cI cJ (va_A ws sz) w) (va_A ws sz)) 0 0 (va_A ws sz) := by
  obtain ⟨mr, mi, mf, mg, rfl, hn, hI⟩ := hc
  obtain ⟨r0, r1, r2, r3, r4, r5, r6, r7, r8, r9, r10, r11, r12, r13, r14, r15, r16, r17, r18, r19, r20, r21, r22, r23, r24, r25, r26, r27, r28⟩ := hI
  refine ref_i (s_stateU l D cI cJ sz b mr mi mf mg z_v) ?_
  intro r u hp
  obtain ⟨p0, p1, p2, p3, p4, l0, l1, f0⟩ := hp
  have p0 : u.2.2.toInt = 0 := p0
  have p1 : (u.2.1 2).toInt = ((mf 1) 2).toInt := p1
  have p2 : (u.2.1 3).toInt = ((mf 1) 3).toInt := p2
  have p3 : (u.2.1 5).toInt = ((mf 1) 5).toInt := p3
  have p4 : (u.2.1 0).toInt = ((mf 1) 0).toInt := p4
  exact ⟨f0.2.trans hn.2.1.1, ⟨mr, (upd (upd mi 0 u.1) 3 u.2.2), (va_up mf 1 u.2.1), mg, rfl, ⟨⟨hn.1.1, K7T_u0 hn.1.2 p0 p4⟩, (K2T_mk hn.2 f0.1 hn.2.1.2)⟩, ⟨r0, (show (0 ≤ (u.2.1 2).toInt ∧ (u.2.1 2).toInt ≤ 150) from by omega), (show (0 ≤ (u.2.1 3).toInt ∧ (u.2.1 3).toInt ≤ 9) from by omega), (show (0 ≤ (u.2.1 5).toInt ∧ (u.2.1 5).toInt ≤ 200) from by omega), r4, r5, r6, r7, r8, r9, r10, (show (0 ≤ u.2.2.toInt ∧ u.2.2.toInt ≤ 6) from by omega), r12, r13, (show (0 ≤ (u.2.1 0).toInt ∧ (u.2.1 0).toInt ≤ 9999) from by omega), r15, (show (rowsOK u.2.2.toInt (mi 6).toInt (mf 2)) from rowsOK_less r16 (by omega)), r17, r18, r19, r20, (show ((((mi 6).toInt = 0 ∧ (u.2.1 3).toInt = 0) ∨ (u.2.1 3).toInt < (mi 6).toInt)) from by omega), r22, r23, l0, l1, r26, r27, (show (u.2.2.toInt ≤ (u.2.1 0).toInt) from by omega)⟩⟩⟩
set_option maxHeartbeats 8000000 in
set_option maxRecDepth 100000 in
theorem m_house (l : Launch) (D : va_G) (cI cJ : ClassId) (sz : Nat) (n : N2) (b : Nat) (ws : va_W) (hc : RW cI cJ n b ws) (z_place : Int32) (z_people : Int32) (z_oil : Int32)  : Met l yX12_house (Cond.code yX12_house cX12_house 5 (some .int) :: GW) ({ frames := 2, cells := 0, slots := 0, locals := 63 } : Room) (va_Pc [.ref b, .int z_place, .int z_people, .int z_oil] (PW D cI cJ sz ws xT)) (va_Qi (fun (r : Int32) (w : va_W) => RW cI cJ (T2h n z_place z_people.toInt z_oil.toInt) b w) (fun w => QW D cI cJ (va_A ws sz) w) (va_A ws sz)) 0 0 (va_A ws sz) := by
  obtain ⟨mr, mi, mf, mg, rfl, hn, hI⟩ := hc
  obtain ⟨r0, r1, r2, r3, r4, r5, r6, r7, r8, r9, r10, r11, r12, r13, r14, r15, r16, r17, r18, r19, r20, r21, r22, r23, r24, r25, r26, r27, r28⟩ := hI
  refine ref_i (s_houseU l D cI cJ sz b mr mi mf mg z_place z_people z_oil r0 r11 r16 r17 r24 r25) ?_
  intro r u hp
  obtain ⟨p0, p1, p2, p3, p4, p5, p6, p7, p8, l0, l1, l2, l3, f0, f1⟩ := hp
  have p0 : 0 ≤ u.2.2.2.2.2.2.2.1.toInt ∧ u.2.2.2.2.2.2.2.1.toInt ≤ 10 := p0
  have p1 : (mi 6).toInt ≤ u.2.2.2.2.2.2.2.1.toInt := p1
  have p2 : u.2.2.2.2.2.2.2.1.toInt ≤ (mi 6).toInt + 1 := p2
  have p3 : 0 ≤ u.2.2.2.2.2.2.2.2.toInt ∧ u.2.2.2.2.2.2.2.2.toInt ≤ 6 := p3
  have p4 : (u.2.2.2.2.2.2.1 2).toInt = ((mf 1) 2).toInt := p4
  have p5 : (u.2.2.2.2.2.2.1 3).toInt = ((mf 1) 3).toInt := p5
  have p6 : (u.2.2.2.2.2.2.1 5).toInt = ((mf 1) 5).toInt := p6
  have p7 : (u.2.2.2.2.2.2.1 0).toInt = ((mf 1) 0).toInt := p7
  have p8 : (u.2.2.2.2.2.2.1 1).toInt = ((mf 1) 1).toInt := p8
  exact ⟨mr, (upd (upd (upd mi 0 u.1) 6 u.2.2.2.2.2.2.2.1) 3 u.2.2.2.2.2.2.2.2), (va_up (va_up (va_up (va_up (va_up (va_up mf 7 u.2.1) 8 u.2.2.1) 9 u.2.2.2.1) 10 u.2.2.2.2.1) 11 u.2.2.2.2.2.1) 1 u.2.2.2.2.2.2.1), mg, rfl, ⟨⟨KR_house hn.1.1 f0 r0.1 rfl rfl rfl, K7T_house hn.1.2 (congrArg Int32.toInt hn.1.1.1.1) hn.1.1.1.2.2 f0 f1 p7⟩, (K2T_eq hn.2 (Int32.toInt_inj.mp p8) rfl)⟩, ⟨(show (0 ≤ u.2.2.2.2.2.2.2.1.toInt ∧ u.2.2.2.2.2.2.2.1.toInt ≤ 10) from by omega), (show (0 ≤ (u.2.2.2.2.2.2.1 2).toInt ∧ (u.2.2.2.2.2.2.1 2).toInt ≤ 150) from by omega), (show (0 ≤ (u.2.2.2.2.2.2.1 3).toInt ∧ (u.2.2.2.2.2.2.1 3).toInt ≤ 9) from by omega), (show (0 ≤ (u.2.2.2.2.2.2.1 5).toInt ∧ (u.2.2.2.2.2.2.1 5).toInt ≤ 200) from by omega), r4, r5, r6, r7, r8, r9, r10, (show (0 ≤ u.2.2.2.2.2.2.2.2.toInt ∧ u.2.2.2.2.2.2.2.2.toInt ≤ 6) from by omega), r12, r13, (show (0 ≤ (u.2.2.2.2.2.2.1 0).toInt ∧ (u.2.2.2.2.2.2.1 0).toInt ≤ 9999) from by omega), r15, l0, l1, r18, r19, (show (rndOK (mi 49).toInt u.2.2.2.2.2.2.2.1.toInt (mf 50)) from rndOK_more r20 (by omega)), (show (((u.2.2.2.2.2.2.2.1.toInt = 0 ∧ (u.2.2.2.2.2.2.1 3).toInt = 0) ∨ (u.2.2.2.2.2.2.1 3).toInt < u.2.2.2.2.2.2.2.1.toInt)) from by omega), r22, r23, l2, l3, r26, r27, (show (u.2.2.2.2.2.2.2.2.toInt ≤ (u.2.2.2.2.2.2.1 0).toInt) from by rcases f1 with ⟨x1, x2⟩ | ⟨x1, x2⟩ <;> omega)⟩⟩
set_option maxHeartbeats 8000000 in
set_option maxRecDepth 100000 in
theorem m_set (l : Launch) (D : va_G) (cI cJ : ClassId) (sz : Nat) (n : N2) (b : Nat) (ws : va_W) (hc : RW cI cJ n b ws) (z_what : Int32) (z_who : Int32) (z_v : Int32)  : Met l yX12_set (Cond.code yX12_set cX12_set 4 (some .boolean) :: GW) ({ frames := 3, cells := 0, slots := 0, locals := 86 } : Room) (va_Pc [.ref b, .int z_what, .int z_who, .int z_v] (PW D cI cJ sz ws xT)) (va_Qi (fun (r : Int32) (w : va_W) => RW cI cJ (T2set n z_what.toInt z_who.toInt z_v.toInt) b w) (fun w => QW D cI cJ (va_A ws sz) w) (va_A ws sz)) 0 0 (va_A ws sz) := by
  obtain ⟨mr, mi, mf, mg, rfl, hn, hI⟩ := hc
  obtain ⟨r0, r1, r2, r3, r4, r5, r6, r7, r8, r9, r10, r11, r12, r13, r14, r15, r16, r17, r18, r19, r20, r21, r22, r23, r24, r25, r26, r27, r28⟩ := hI
  refine ref_i (s_setU l D cI cJ sz b mr mi mf mg z_what z_who z_v r0 r11 r9 r16 r17 r24 r25) ?_
  intro r u hp
  obtain ⟨p0, p1, p2, p3, p4, p5, l0, l1, l2, l3, f0, f1, qa⟩ := hp
  have p0 : (-29) ≤ u.2.2.2.2.2.1.toInt ∧ u.2.2.2.2.2.1.toInt ≤ 69 := p0
  have p1 : 0 ≤ u.2.2.2.2.2.2.2.2.2.toInt ∧ u.2.2.2.2.2.2.2.2.2.toInt ≤ 6 := p1
  have p2 : (u.2.1 2).toInt = ((mf 1) 2).toInt := p2
  have p3 : (u.2.1 5).toInt = ((mf 1) 5).toInt := p3
  have p4 : (u.2.1 0).toInt = ((mf 1) 0).toInt := p4
  have p5 : (u.2.1 1).toInt = ((mf 1) 1).toInt := p5
  rcases qa with ⟨-, x1⟩ | ⟨-, x1⟩ | ⟨-, x1, x2⟩
  · exact ⟨mr, (upd (upd (upd (upd (upd (upd mi 0 u.1) 12 u.2.2.1) 13 u.2.2.2.1) 14 u.2.2.2.2.1) 15 u.2.2.2.2.2.1) 3 u.2.2.2.2.2.2.2.2.2), (va_up (va_up (va_up (va_up mf 1 u.2.1) 8 u.2.2.2.2.2.2.1) 9 u.2.2.2.2.2.2.2.1) 10 u.2.2.2.2.2.2.2.2.1), mg, rfl, ⟨⟨hn.1.1, K7T_tn (T := n.1) (c := SETC n.1.1.1.1.toInt z_what.toInt z_who.toInt z_v.toInt) hn.1.2 (by rw [← (congrArg Int32.toInt hn.1.1.1.1)]; exact f1) p4⟩, (K2T_set (T := n) (hc := (mi 6).toInt) (P := True) hn.2 (congrArg Int32.toInt hn.1.1.1.1) (by rcases f1 with ⟨x1, x2, -⟩ | ⟨x1, x2, -⟩ <;> first | exact Or.inl ⟨x1, x2, trivial⟩ | exact Or.inr ⟨x1, x2, trivial⟩) f0 (Int32.toInt_inj.mp p5))⟩, ⟨r0, (show (0 ≤ (u.2.1 2).toInt ∧ (u.2.1 2).toInt ≤ 150) from by omega), (show (0 ≤ (u.2.1 3).toInt ∧ (u.2.1 3).toInt ≤ 9) from by omega), (show (0 ≤ (u.2.1 5).toInt ∧ (u.2.1 5).toInt ≤ 200) from by omega), r4, r5, r6, r7, r8, (show (-29 ≤ u.2.2.2.2.2.1.toInt ∧ u.2.2.2.2.2.1.toInt ≤ 69) from by omega), r10, (show (0 ≤ u.2.2.2.2.2.2.2.2.2.toInt ∧ u.2.2.2.2.2.2.2.2.2.toInt ≤ 6) from by omega), r12, r13, (show (0 ≤ (u.2.1 0).toInt ∧ (u.2.1 0).toInt ≤ 9999) from by omega), r15, l0, l1, r18, r19, r20, (show ((((mi 6).toInt = 0 ∧ (u.2.1 3).toInt = 0) ∨ (u.2.1 3).toInt < (mi 6).toInt)) from by omega), r22, r23, l2, l3, r26, r27, (show (u.2.2.2.2.2.2.2.2.2.toInt ≤ (u.2.1 0).toInt) from by rcases f1 with ⟨-, -, x2⟩ | ⟨-, -, x2⟩ <;> omega)⟩⟩
  · exact ⟨mr, (upd (upd (upd (upd (upd (upd mi 0 u.1) 12 u.2.2.1) 13 u.2.2.2.1) 14 u.2.2.2.2.1) 15 u.2.2.2.2.2.1) 3 u.2.2.2.2.2.2.2.2.2), (va_up (va_up (va_up (va_up mf 1 u.2.1) 8 u.2.2.2.2.2.2.1) 9 u.2.2.2.2.2.2.2.1) 10 u.2.2.2.2.2.2.2.2.1), mg, rfl, ⟨⟨hn.1.1, K7T_tn (T := n.1) (c := SETC n.1.1.1.1.toInt z_what.toInt z_who.toInt z_v.toInt) hn.1.2 (by rw [← (congrArg Int32.toInt hn.1.1.1.1)]; exact f1) p4⟩, (K2T_set (T := n) (hc := (mi 6).toInt) (P := True) hn.2 (congrArg Int32.toInt hn.1.1.1.1) (by rcases f1 with ⟨x1, x2, -⟩ | ⟨x1, x2, -⟩ <;> first | exact Or.inl ⟨x1, x2, trivial⟩ | exact Or.inr ⟨x1, x2, trivial⟩) f0 (Int32.toInt_inj.mp p5))⟩, ⟨r0, (show (0 ≤ (u.2.1 2).toInt ∧ (u.2.1 2).toInt ≤ 150) from by omega), (show (0 ≤ (u.2.1 3).toInt ∧ (u.2.1 3).toInt ≤ 9) from by omega), (show (0 ≤ (u.2.1 5).toInt ∧ (u.2.1 5).toInt ≤ 200) from by omega), r4, r5, r6, r7, r8, (show (-29 ≤ u.2.2.2.2.2.1.toInt ∧ u.2.2.2.2.2.1.toInt ≤ 69) from by omega), r10, (show (0 ≤ u.2.2.2.2.2.2.2.2.2.toInt ∧ u.2.2.2.2.2.2.2.2.2.toInt ≤ 6) from by omega), r12, r13, (show (0 ≤ (u.2.1 0).toInt ∧ (u.2.1 0).toInt ≤ 9999) from by omega), r15, l0, l1, r18, r19, r20, (show ((((mi 6).toInt = 0 ∧ (u.2.1 3).toInt = 0) ∨ (u.2.1 3).toInt < (mi 6).toInt)) from by omega), r22, r23, l2, l3, r26, r27, (show (u.2.2.2.2.2.2.2.2.2.toInt ≤ (u.2.1 0).toInt) from by rcases f1 with ⟨-, -, x2⟩ | ⟨-, -, x2⟩ <;> omega)⟩⟩
  · exact ⟨mr, (upd (upd (upd (upd (upd (upd mi 0 u.1) 12 u.2.2.1) 13 u.2.2.2.1) 14 u.2.2.2.2.1) 15 u.2.2.2.2.2.1) 3 u.2.2.2.2.2.2.2.2.2), (va_up (va_up (va_up (va_up mf 1 u.2.1) 8 u.2.2.2.2.2.2.1) 9 u.2.2.2.2.2.2.2.1) 10 u.2.2.2.2.2.2.2.2.1), mg, rfl, ⟨⟨hn.1.1, K7T_tn (T := n.1) (c := SETC n.1.1.1.1.toInt z_what.toInt z_who.toInt z_v.toInt) hn.1.2 (by rw [← (congrArg Int32.toInt hn.1.1.1.1)]; exact f1) p4⟩, (K2T_set (T := n) (hc := (mi 6).toInt) (P := True) hn.2 (congrArg Int32.toInt hn.1.1.1.1) (by rcases f1 with ⟨x1, x2, -⟩ | ⟨x1, x2, -⟩ <;> first | exact Or.inl ⟨x1, x2, trivial⟩ | exact Or.inr ⟨x1, x2, trivial⟩) f0 (Int32.toInt_inj.mp p5))⟩, ⟨r0, (show (0 ≤ (u.2.1 2).toInt ∧ (u.2.1 2).toInt ≤ 150) from by omega), (show (0 ≤ (u.2.1 3).toInt ∧ (u.2.1 3).toInt ≤ 9) from by omega), (show (0 ≤ (u.2.1 5).toInt ∧ (u.2.1 5).toInt ≤ 200) from by omega), r4, r5, r6, r7, r8, (show (-29 ≤ u.2.2.2.2.2.1.toInt ∧ u.2.2.2.2.2.1.toInt ≤ 69) from by omega), r10, (show (0 ≤ u.2.2.2.2.2.2.2.2.2.toInt ∧ u.2.2.2.2.2.2.2.2.2.toInt ≤ 6) from by omega), r12, r13, (show (0 ≤ (u.2.1 0).toInt ∧ (u.2.1 0).toInt ≤ 9999) from by omega), r15, l0, l1, r18, r19, r20, (show ((((mi 6).toInt = 0 ∧ (u.2.1 3).toInt = 0) ∨ (u.2.1 3).toInt < (mi 6).toInt)) from by omega), r22, r23, l2, l3, r26, r27, (show (u.2.2.2.2.2.2.2.2.2.toInt ≤ (u.2.1 0).toInt) from by rcases f1 with ⟨-, -, x2⟩ | ⟨-, -, x2⟩ <;> omega)⟩⟩
set_option maxHeartbeats 8000000 in
set_option maxRecDepth 100000 in
theorem m_friends (l : Launch) (D : va_G) (cI cJ : ClassId) (sz : Nat) (n : N2) (b : Nat) (ws : va_W) (hc : RW cI cJ n b ws) (z_a : Int32) (z_b : Int32) (z_are : Int32)  : Met l yX12_friends (Cond.code yX12_friends cX12_friends 4 (some .boolean) :: GW) ({ frames := 2, cells := 0, slots := 0, locals := 61 } : Room) (va_Pc [.ref b, .int z_a, .int z_b, .int z_are] (PW D cI cJ sz ws xT)) (va_Qi (fun (r : Int32) (w : va_W) => RW cI cJ (T2fr n z_a.toInt z_b.toInt) b w) (fun w => QW D cI cJ (va_A ws sz) w) (va_A ws sz)) 0 0 (va_A ws sz) := by
  obtain ⟨mr, mi, mf, mg, rfl, hn, hI⟩ := hc
  obtain ⟨r0, r1, r2, r3, r4, r5, r6, r7, r8, r9, r10, r11, r12, r13, r14, r15, r16, r17, r18, r19, r20, r21, r22, r23, r24, r25, r26, r27, r28⟩ := hI
  refine ref_i (s_friendsU l D cI cJ sz b mr mi mf mg z_a z_b z_are r0 r11 r24 r25) ?_
  intro r u hp
  obtain ⟨p0, p1, l0, l1, f0⟩ := hp
  have p0 : 0 ≤ u.2.2.toInt ∧ u.2.2.toInt ≤ 6 := p0
  have p1 : u.2.2.toInt ≤ (mi 3).toInt := p1
  exact ⟨mr, (upd (upd mi 0 u.1) 3 u.2.2), (va_up mf 11 u.2.1), mg, rfl, ⟨⟨hn.1.1, K7T_tn (T := n.1) (c := FRDC n.1.1.1.1.toInt z_a.toInt z_b.toInt) hn.1.2 (by rw [← (congrArg Int32.toInt hn.1.1.1.1)]; exact f0) rfl⟩, (K2T_eq hn.2 rfl rfl)⟩, ⟨r0, r1, r2, r3, r4, r5, r6, r7, r8, r9, r10, (show (0 ≤ u.2.2.toInt ∧ u.2.2.toInt ≤ 6) from by omega), r12, r13, r14, r15, (show (rowsOK u.2.2.toInt (mi 6).toInt (mf 2)) from rowsOK_less r16 (by omega)), r17, r18, r19, r20, r21, r22, r23, l0, l1, r26, r27, (show (u.2.2.toInt ≤ ((mf 1) 0).toInt) from by rcases f0 with ⟨-, -, x2⟩ | ⟨-, -, x2⟩ <;> omega)⟩⟩
set_option maxHeartbeats 8000000 in
set_option maxRecDepth 100000 in
theorem m_feed (l : Launch) (D : va_G) (cI cJ : ClassId) (sz : Nat) (n : N2) (b : Nat) (ws : va_W) (hc : RW cI cJ n b ws) (z_a : Int32) (z_b : Int32) (z_c : Int32) (z_d : Int32) (z_e : Int32)  : Met l yX12_feed (Cond.code yX12_feed cX12_feed 6 (some .int) :: GW) ({ frames := 2, cells := 0, slots := 0, locals := 62 } : Room) (va_Pc [.ref b, .int z_a, .int z_b, .int z_c, .int z_d, .int z_e] (PW D cI cJ sz ws xT)) (va_Qi (fun (r : Int32) (w : va_W) => RW cI cJ (T2f n z_a z_b z_c z_d z_e) b w) (fun w => QW D cI cJ (va_A ws sz) w) (va_A ws sz)) 0 0 (va_A ws sz) := by
  obtain ⟨mr, mi, mf, mg, rfl, hn, hI⟩ := hc
  obtain ⟨r0, r1, r2, r3, r4, r5, r6, r7, r8, r9, r10, r11, r12, r13, r14, r15, r16, r17, r18, r19, r20, r21, r22, r23, r24, r25, r26, r27, r28⟩ := hI
  refine ref_i (s_feedU l D cI cJ sz b mr mi mf mg z_a z_b z_c z_d z_e r12 r27) ?_
  intro r u hp
  obtain ⟨p0, a0, f0, qa⟩ := hp
  have p0 : 0 ≤ u.2.2.toInt ∧ u.2.2.toInt ≤ 400 := p0
  exact ⟨mr, (upd (upd mi 0 u.1) 21 u.2.2), (va_up mf 20 u.2.1), mg, rfl, ⟨⟨(by show KR (T7f n.1 _ _ _ _ _).1 _ _; rw [T7f_1]; exact hn.1.1), K7T_feed hn.1.2 f0 (by rcases qa with ⟨-, x1, x2⟩ | ⟨x1, x2, -⟩ <;> first | exact Or.inr ⟨x1, x2⟩ | exact Or.inl ⟨x1, x2⟩)⟩, (K2T_eq hn.2 rfl rfl)⟩, ⟨r0, r1, r2, r3, r4, r5, r6, r7, r8, r9, r10, r11, (show (0 ≤ u.2.2.toInt ∧ u.2.2.toInt ≤ 400) from by omega), r13, r14, r15, r16, r17, r18, r19, r20, r21, r22, r23, r24, r25, r26, a0, r28⟩⟩
set_option maxHeartbeats 8000000 in
set_option maxRecDepth 100000 in
theorem m_end (l : Launch) (D : va_G) (cI cJ : ClassId) (sz : Nat) (n : N2) (b : Nat) (ws : va_W) (hc : RW cI cJ n b ws) (z_k : Int32)  : Met l yX12_end (Cond.code yX12_end cX12_end 2 (some .boolean) :: GW) ({ frames := 2, cells := 0, slots := 0, locals := 63 } : Room) (va_Pc [.ref b, .int z_k] (PW D cI cJ sz ws xT)) (va_Qi (fun (r : Int32) (w : va_W) => RW cI cJ (T2e n z_k.toInt) b w) (fun w => QW D cI cJ (va_A ws sz) w) (va_A ws sz)) 0 0 (va_A ws sz) := by
  obtain ⟨mr, mi, mf, mg, rfl, hn, hI⟩ := hc
  obtain ⟨r0, r1, r2, r3, r4, r5, r6, r7, r8, r9, r10, r11, r12, r13, r14, r15, r16, r17, r18, r19, r20, r21, r22, r23, r24, r25, r26, r27, r28⟩ := hI
  refine ref_i (s_endB l D cI cJ sz b mr mi mf mg z_k r12) ?_
  intro r u hp
  obtain ⟨p0, qa⟩ := hp
  have p0 : 0 ≤ u.2.toInt ∧ u.2.toInt ≤ 400 := p0
  exact ⟨mr, (upd (upd mi 0 u.1) 21 u.2), mf, mg, rfl, ⟨⟨(by show KR (T7e n.1 _).1 _ _; rw [T7e_1]; exact hn.1.1), K7T_end hn.1.2 (by rcases qa with ⟨-, x1, x2⟩ | ⟨-, x1, x2⟩ | ⟨-, x1, x3, x2⟩ <;> first | exact Or.inl ⟨x1, x2⟩ | exact Or.inr (Or.inl ⟨x1, x2⟩) | exact Or.inr (Or.inr ⟨x1, x3, x2⟩))⟩, (K2T_eq hn.2 rfl rfl)⟩, ⟨r0, r1, r2, r3, r4, r5, r6, r7, r8, r9, r10, r11, (show (0 ≤ u.2.toInt ∧ u.2.toInt ≤ 400) from by omega), r13, r14, r15, r16, r17, r18, r19, r20, r21, r22, r23, r24, r25, r26, r27, r28⟩⟩
set_option maxHeartbeats 8000000 in
set_option maxRecDepth 100000 in
theorem m_fault (l : Launch) (D : va_G) (cI cJ : ClassId) (sz : Nat) (n : N2) (b : Nat) (ws : va_W) (hc : RW cI cJ n b ws) (z_what : Int32)  : Met l yX12_fault (Cond.code yX12_fault cX12_fault 2 (some .int) :: GW) ({ frames := 1, cells := 0, slots := 0, locals := 40 } : Room) (va_Pc [.ref b, .int z_what] (PW D cI cJ sz ws xT)) (va_Qi (fun (r : Int32) (w : va_W) => RW cI cJ n b w) (fun w => QW D cI cJ (va_A ws sz) w) (va_A ws sz)) 0 0 (va_A ws sz) := by
  obtain ⟨mr, mi, mf, mg, rfl, hn, hI⟩ := hc
  obtain ⟨r0, r1, r2, r3, r4, r5, r6, r7, r8, r9, r10, r11, r12, r13, r14, r15, r16, r17, r18, r19, r20, r21, r22, r23, r24, r25, r26, r27, r28⟩ := hI
  refine ref_i (s_fault l D cI cJ sz b mr mi mf mg z_what) ?_
  intro r u hp
  exact ⟨mr, (upd mi 0 u), mf, mg, rfl, hn, ⟨r0, r1, r2, r3, r4, r5, r6, r7, r8, r9, r10, r11, r12, r13, r14, r15, r16, r17, r18, r19, r20, r21, r22, r23, r24, r25, r26, r27, r28⟩⟩
set_option maxHeartbeats 8000000 in
set_option maxRecDepth 100000 in
theorem m_nights (l : Launch) (D : va_G) (cI cJ : ClassId) (sz : Nat) (n : N2) (b : Nat) (ws : va_W) (hc : RW cI cJ n b ws) (z_n : Int32)  : Met l yX12_nights (Cond.code yX12_nights cX12_nights 4 (some .int) :: GW) ({ frames := 8, cells := 0, slots := 0, locals := 201 } : Room) (va_Pc [.ref b, .int z_n] (PW D cI cJ sz ws xT)) (va_Qi (fun (r : Int32) (w : va_W) => RW cI cJ (T2n n z_n.toInt) b w) (fun w => QW D cI cJ (va_A ws sz) w) (va_A ws sz)) 0 0 (va_A ws sz) := by
  obtain ⟨mr, mi, mf, mg, rfl, hn, hI⟩ := hc
  obtain ⟨r0, r1, r2, r3, r4, r5, r6, r7, r8, r9, r10, r11, r12, r13, r14, r15, r16, r17, r18, r19, r20, r21, r22, r23, r24, r25, r26, r27, r28⟩ := hI
  refine ref_i (s_nightsU l D cI cJ sz b mr mi mf mg z_n r0 r1 r2 r3 r4 r5 r6.1 r6.2 r7.1 r7.2 r8 r9 r11 r14.1 r14.2 (by omega) r26 r18 r19 r20 r16 r21 r24 r25) ?_
  intro r u hp
  obtain ⟨p0, p1, p2, p3, p4, p5, p6, p7, p8, p9, l0, l1, l2, l3, f0, f1⟩ := hp
  have p0 : 0 ≤ (u.2.1 2).toInt := p0
  have p1 : (u.2.1 2).toInt ≤ 150 := p1
  have p2 : 0 ≤ (u.2.1 5).toInt := p2
  have p3 : (u.2.1 5).toInt ≤ 200 := p3
  have p4 : 0 ≤ (u.2.1 3).toInt := p4
  have p5 : (u.2.1 3).toInt ≤ 9 := p5
  have p6 : 0 ≤ u.2.2.2.1.toInt := p6
  have p7 : u.2.2.2.1.toInt ≤ 6 := p7
  have p8 : 0 ≤ (u.2.1 0).toInt := p8
  have p9 : (u.2.1 0).toInt ≤ 9999 := p9
  exact ⟨mr, (upd (upd mi 0 u.1) 3 u.2.2.2.1), (va_up (va_up (va_up (va_up (va_up (va_up mf 1 u.2.1) 2 u.2.2.1) 55 u.2.2.2.2.1) 53 u.2.2.2.2.2.1) 54 u.2.2.2.2.2.2.1) 16 u.2.2.2.2.2.2.2), mg, rfl, ⟨⟨hn.1.1, K7T_nights hn.1.2 (congrArg Int32.toInt hn.1.1.1.1) p7 f1⟩, (K2T_n (T := n) hn.2 (congrArg Int32.toInt hn.1.1.1.1) hn.1.2.2.2.1 f1 f0)⟩, ⟨r0, (show (0 ≤ (u.2.1 2).toInt ∧ (u.2.1 2).toInt ≤ 150) from by omega), (show (0 ≤ (u.2.1 3).toInt ∧ (u.2.1 3).toInt ≤ 9) from by omega), (show (0 ≤ (u.2.1 5).toInt ∧ (u.2.1 5).toInt ≤ 200) from by omega), r4, r5, r6, r7, r8, r9, r10, (show (0 ≤ u.2.2.2.1.toInt ∧ u.2.2.2.1.toInt ≤ 6) from by omega), r12, r13, (show (0 ≤ (u.2.1 0).toInt ∧ (u.2.1 0).toInt ≤ 9999) from by omega), r15, l0, r17, r18, r19, r20, l1, r22, r23, l2, l3, r26, r27, (show (u.2.2.2.1.toInt ≤ (u.2.1 0).toInt) from by rcases f1 with ⟨-, -, x1, x2⟩ | ⟨-, -, x1, x2⟩ <;> omega)⟩⟩
set_option maxHeartbeats 8000000 in
set_option maxRecDepth 100000 in
theorem m_of (l : Launch) (D : va_G) (cI cJ : ClassId) (sz : Nat) (n : N2) (b : Nat) (ws : va_W) (hc : RW cI cJ n b ws) (z_house : Int32) (z_what : Int32)  : Met l yX12_of (Cond.code yX12_of cX12_of 3 (some .int) :: GW) ({ frames := 6, cells := 0, slots := 0, locals := 151 } : Room) (va_Pc [.ref b, .int z_house, .int z_what] (PW D cI cJ sz ws xT)) (va_Qi (fun (r : Int32) (w : va_W) => RW cI cJ n b w) (fun w => QW D cI cJ (va_A ws sz) w) (va_A ws sz)) 0 0 (va_A ws sz) := by
  obtain ⟨mr, mi, mf, mg, rfl, hn, hI⟩ := hc
  obtain ⟨r0, r1, r2, r3, r4, r5, r6, r7, r8, r9, r10, r11, r12, r13, r14, r15, r16, r17, r18, r19, r20, r21, r22, r23, r24, r25, r26, r27, r28⟩ := hI
  refine ref_i (s_of l D cI cJ sz b mr mi mf mg z_house z_what r0 r1 r2 r3 r4 r5 r6.1 r6.2 r7.1 r7.2 r8 r9 r26 r18 r19) ?_
  intro r u hp
  exact ⟨mr, (upd mi 0 u.1), (va_up (va_up (va_up mf 55 u.2.1) 53 u.2.2.1) 54 u.2.2.2), mg, rfl, hn, ⟨r0, r1, r2, r3, r4, r5, r6, r7, r8, r9, r10, r11, r12, r13, r14, r15, r16, r17, r18, r19, r20, r21, r22, r23, r24, r25, r26, r27, r28⟩⟩
set_option maxHeartbeats 8000000 in
set_option maxRecDepth 100000 in
theorem m_far (l : Launch) (D : va_G) (cI cJ : ClassId) (sz : Nat) (n : N2) (b : Nat) (ws : va_W) (hc : RW cI cJ n b ws) (z_a : Int32) (z_b : Int32)  : Met l yX12_far (Cond.code yX12_far cX12_far 3 (some .int) :: GW) ({ frames := 2, cells := 0, slots := 0, locals := 65 } : Room) (va_Pc [.ref b, .int z_a, .int z_b] (PW D cI cJ sz ws xT)) (va_Qi (fun (r : Int32) (w : va_W) => RW cI cJ n b w) (fun w => QW D cI cJ (va_A ws sz) w) (va_A ws sz)) 0 0 (va_A ws sz) := by
  obtain ⟨mr, mi, mf, mg, rfl, hn, hI⟩ := hc
  obtain ⟨r0, r1, r2, r3, r4, r5, r6, r7, r8, r9, r10, r11, r12, r13, r14, r15, r16, r17, r18, r19, r20, r21, r22, r23, r24, r25, r26, r27, r28⟩ := hI
  refine ref_i (s_far l D cI cJ sz b mr mi mf mg z_a z_b r0 r5 r26) ?_
  intro r u hp
  exact ⟨mr, (upd mi 0 u.1), (va_up mf 55 u.2), mg, rfl, hn, ⟨r0, r1, r2, r3, r4, r5, r6, r7, r8, r9, r10, r11, r12, r13, r14, r15, r16, r17, r18, r19, r20, r21, r22, r23, r24, r25, r26, r27, r28⟩⟩
set_option maxHeartbeats 8000000 in
set_option maxRecDepth 100000 in
theorem m_need (l : Launch) (D : va_G) (cI cJ : ClassId) (sz : Nat) (n : N2) (b : Nat) (ws : va_W) (hc : RW cI cJ n b ws) (z_i : Int32) (z_what : Int32)  : Met l yX12_need (Cond.code yX12_need cX12_need 3 (some .int) :: GW) ({ frames := 3, cells := 0, slots := 0, locals := 84 } : Room) (va_Pc [.ref b, .int z_i, .int z_what] (PW D cI cJ sz ws xT)) (va_Qi (fun (r : Int32) (w : va_W) => RW cI cJ n b w) (fun w => QW D cI cJ (va_A ws sz) w) (va_A ws sz)) 0 0 (va_A ws sz) := by
  obtain ⟨mr, mi, mf, mg, rfl, hn, hI⟩ := hc
  obtain ⟨r0, r1, r2, r3, r4, r5, r6, r7, r8, r9, r10, r11, r12, r13, r14, r15, r16, r17, r18, r19, r20, r21, r22, r23, r24, r25, r26, r27, r28⟩ := hI
  refine ref_i (s_need l D cI cJ sz b mr mi mf mg z_i z_what r4) ?_
  intro r u hp
  exact ⟨mr, (upd mi 0 u), mf, mg, rfl, hn, ⟨r0, r1, r2, r3, r4, r5, r6, r7, r8, r9, r10, r11, r12, r13, r14, r15, r16, r17, r18, r19, r20, r21, r22, r23, r24, r25, r26, r27, r28⟩⟩
set_option maxHeartbeats 8000000 in
set_option maxRecDepth 100000 in
theorem m_book (l : Launch) (D : va_G) (cI cJ : ClassId) (sz : Nat) (n : N2) (b : Nat) (ws : va_W) (hc : RW cI cJ n b ws) (z_i : Int32) (z_what : Int32)  : Met l yX12_book (Cond.code yX12_book cX12_book 3 (some .int) :: GW) ({ frames := 2, cells := 0, slots := 0, locals := 63 } : Room) (va_Pc [.ref b, .int z_i, .int z_what] (PW D cI cJ sz ws xT)) (va_Qi (fun (r : Int32) (w : va_W) => RW cI cJ n b w) (fun w => QW D cI cJ (va_A ws sz) w) (va_A ws sz)) 0 0 (va_A ws sz) := by
  obtain ⟨mr, mi, mf, mg, rfl, hn, hI⟩ := hc
  obtain ⟨r0, r1, r2, r3, r4, r5, r6, r7, r8, r9, r10, r11, r12, r13, r14, r15, r16, r17, r18, r19, r20, r21, r22, r23, r24, r25, r26, r27, r28⟩ := hI
  refine ref_i (s_book l D cI cJ sz b mr mi mf mg z_i z_what r1) ?_
  intro r u hp
  exact ⟨mr, (upd mi 0 u), mf, mg, rfl, hn, ⟨r0, r1, r2, r3, r4, r5, r6, r7, r8, r9, r10, r11, r12, r13, r14, r15, r16, r17, r18, r19, r20, r21, r22, r23, r24, r25, r26, r27, r28⟩⟩
set_option maxHeartbeats 8000000 in
set_option maxRecDepth 100000 in
theorem m_run (l : Launch) (D : va_G) (cI cJ : ClassId) (sz : Nat) (n : N2) (b : Nat) (ws : va_W) (hc : RW cI cJ n b ws) (z_n : Int32) (z_what : Int32)  : Met l yX12_run (Cond.code yX12_run cX12_run 4 (some .int) :: GW) ({ frames := 9, cells := 0, slots := 0, locals := 224 } : Room) (va_Pc [.ref b, .int z_n, .int z_what] (PW D cI cJ sz ws xT)) (va_Qi (fun (r : Int32) (w : va_W) => RW cI cJ n b w) (fun w => QW D cI cJ (va_A ws sz) w) (va_A ws sz)) 0 0 (va_A ws sz) := by
  obtain ⟨mr, mi, mf, mg, rfl, hn, hI⟩ := hc
  obtain ⟨r0, r1, r2, r3, r4, r5, r6, r7, r8, r9, r10, r11, r12, r13, r14, r15, r16, r17, r18, r19, r20, r21, r22, r23, r24, r25, r26, r27, r28⟩ := hI
  refine ref_i (s_runU l D cI cJ sz b mr mi mf mg z_n z_what r0 r1 r2 r3 r4 r5 r6.1 r6.2 r7.1 r7.2 r8 r9 r14.1 r14.2 (by omega) r26 r18 r19 r20 r21) ?_
  intro r u hp
  obtain ⟨p0, p1, p2, p3, p4, p5⟩ := hp
  have p0 : (u.2.1 2).toInt = ((mf 1) 2).toInt := p0
  have p1 : (u.2.1 3).toInt = ((mf 1) 3).toInt := p1
  have p2 : (u.2.1 5).toInt = ((mf 1) 5).toInt := p2
  have p3 : (u.2.1 0).toInt = ((mf 1) 0).toInt := p3
  have p4 : (u.2.1 1).toInt = ((mf 1) 1).toInt := p4
  have p5 : u.2.2.2.1.toInt = 0 := p5
  exact ⟨mr, (upd (upd (upd (upd (upd mi 0 u.1) 5 u.2.2.2.1) 56 u.2.2.2.2.1) 57 u.2.2.2.2.2.1) 58 u.2.2.2.2.2.2.1), (va_up (va_up (va_up (va_up (va_up (va_up mf 1 u.2.1) 4 u.2.2.1) 55 u.2.2.2.2.2.2.2.1) 53 u.2.2.2.2.2.2.2.2.1) 54 u.2.2.2.2.2.2.2.2.2.1) 16 u.2.2.2.2.2.2.2.2.2.2), mg, rfl, ⟨⟨hn.1.1, K7T_now hn.1.2 p3⟩, (K2T_eq hn.2 (Int32.toInt_inj.mp p4) rfl)⟩, ⟨r0, (show (0 ≤ (u.2.1 2).toInt ∧ (u.2.1 2).toInt ≤ 150) from by omega), (show (0 ≤ (u.2.1 3).toInt ∧ (u.2.1 3).toInt ≤ 9) from by omega), (show (0 ≤ (u.2.1 5).toInt ∧ (u.2.1 5).toInt ≤ 200) from by omega), r4, r5, r6, r7, r8, r9, r10, r11, r12, r13, (show (0 ≤ (u.2.1 0).toInt ∧ (u.2.1 0).toInt ≤ 9999) from by omega), (show (0 ≤ u.2.2.2.1.toInt ∧ u.2.2.2.1.toInt ≤ 0) from by omega), r16, r17, r18, r19, r20, (show ((((mi 6).toInt = 0 ∧ (u.2.1 3).toInt = 0) ∨ (u.2.1 3).toInt < (mi 6).toInt)) from by omega), r22, r23, (show (RKN (mi 3).toInt ((u.2.1 0).toInt) (mf 2)) from RKN_eq r24 (by omega) (by omega)), (show (RKD (mi 3).toInt (u.2.1 1) (mi 12).toInt (mf 2)) from RKD_eq r25 (by omega) (Int32.toInt_inj.mp (by omega)) (by omega)), r26, r27, (show ((mi 3).toInt ≤ (u.2.1 0).toInt) from by omega)⟩⟩
set_option maxHeartbeats 8000000 in
set_option maxRecDepth 100000 in
theorem m_plan (l : Launch) (D : va_G) (cI cJ : ClassId) (sz : Nat) (n : N2) (b : Nat) (ws : va_W) (hc : RW cI cJ n b ws) (z_n : Int32) (z_what : Int32)  : Met l yX12_plan (Cond.code yX12_plan cX12_plan 8 (some .int) :: GW) ({ frames := 6, cells := 0, slots := 0, locals := 165 } : Room) (va_Pc [.ref b, .int z_n, .int z_what] (PW D cI cJ sz ws xT)) (va_Qi (fun (r : Int32) (w : va_W) => RW cI cJ n b w) (fun w => QW D cI cJ (va_A ws sz) w) (va_A ws sz)) 0 0 (va_A ws sz) := by
  obtain ⟨mr, mi, mf, mg, rfl, hn, hI⟩ := hc
  obtain ⟨r0, r1, r2, r3, r4, r5, r6, r7, r8, r9, r10, r11, r12, r13, r14, r15, r16, r17, r18, r19, r20, r21, r22, r23, r24, r25, r26, r27, r28⟩ := hI
  refine ref_i (s_plan l D cI cJ sz b mr mi mf mg z_n z_what r0 r1 r2 r3 r4 r5 r26 r21) ?_
  intro r u hp
  exact ⟨mr, (upd mi 0 u.1), (va_up (va_up mf 55 u.2.1) 59 u.2.2), mg, rfl, hn, ⟨r0, r1, r2, r3, r4, r5, r6, r7, r8, r9, r10, r11, r12, r13, r14, r15, r16, r17, r18, r19, r20, r21, r22, r23, r24, r25, r26, r27, r28⟩⟩
