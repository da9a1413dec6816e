def RF (mi : Nat → Int32) (mf : Nat → Nat → Int32) : Prop := (0 ≤ (mi 6).toInt ∧ (mi 6).toInt ≤ 10) ∧ (0 ≤ ((mf 1) 2).toInt ∧ ((mf 1) 2).toInt ≤ 150) ∧ (0 ≤ ((mf 1) 3).toInt ∧ ((mf 1) 3).toInt ≤ 9) ∧ (0 ≤ ((mf 1) 5).toInt ∧ ((mf 1) 5).toInt ≤ 200) ∧ (0 ≤ (mi 44).toInt ∧ (mi 44).toInt ≤ 10) ∧ (0 ≤ (mi 42).toInt ∧ (mi 42).toInt ≤ 40) ∧ (0 ≤ ((mf 27) 0).toInt ∧ ((mf 27) 0).toInt ≤ 16) ∧ (0 ≤ ((mf 27) 1).toInt ∧ ((mf 27) 1).toInt ≤ 16) ∧ (0 ≤ (mi 49).toInt ∧ (mi 49).toInt ≤ 200) ∧ (-29 ≤ (mi 15).toInt ∧ (mi 15).toInt ≤ 69) ∧ (0 ≤ (mi 17).toInt ∧ (mi 17).toInt ≤ 8) ∧ (0 ≤ (mi 3).toInt ∧ (mi 3).toInt ≤ 6) ∧ (0 ≤ (mi 21).toInt ∧ (mi 21).toInt ≤ 400) ∧ (32 ≤ ((mf 26) 153).toInt ∧ ((mf 26) 153).toInt ≤ 32) ∧ (rowsOK (mi 3).toInt (mi 6).toInt (mf 2)) ∧ (pplOK (mi 6).toInt (mf 8)) ∧ (LW 0 0 (mf 31) (mf 32) (mf 28) (mf 29) (mf 30) ((mf 27) 0).toInt 400) ∧ (LW 16 400 (mf 31) (mf 32) (mf 28) (mf 29) (mf 30) ((mf 27) 1).toInt 400) ∧ (rndOK (mi 49).toInt (mi 6).toInt (mf 50)) ∧ ((((mi 6).toInt = 0 ∧ ((mf 1) 3).toInt = 0) ∨ ((mf 1) 3).toInt < (mi 6).toInt)) ∧ ((∀ j : Nat, j < 154 → (mf 26) j = w0 j)) ∧ (IMGO ((mi 67).toInt) (mf 69)) ∧ pathsOK (mf 43)
def KG (t : KV) (im : Nat → Int32) : Prop := im 66 = t.1 ∧ im 121 = t.2.2 ∧ ∀ j : Nat, (j : Int) < t.1.toInt → im (67 + 5 * j) = t.2.1 j
def KJ (o : Option KV) (h : Int32) (im : Nat → Int32) : Prop := (h.toInt = 0 ∧ o = none) ∨ (∃ t : KV, h.toInt ≠ 0 ∧ o = some t ∧ KG t im)
def KR (T : KT) (mi : Nat → Int32) (mf : Nat → Nat → Int32) : Prop := KH T.1 (mi 6) (mf 7) (mi 17) ∧ KJ T.2 (mi 67) (mf 69)
section KRs
variable {T : KT} {mi mi' : Nat → Int32} {mf mf' : Nat → Nat → Int32}
theorem KR_house {w : Int32} {pe oi : Int} (h : KR T mi mf) (hs : HST (mi 6).toInt (mi' 6).toInt (mf 7) (mf' 7) w pe oi) (h0 : 0 ≤ (mi 6).toInt) (e3 : mi' 17 = mi 17) (e4 : mi' 67 = mi 67) (e5 : mf' 69 = mf 69) : KR (TH T w pe oi) mi' mf' := by
  obtain ⟨q1, q2⟩ := KH_house h.1 hs h0 e3
  refine ⟨q1, ?_⟩
  rw [q2, e4, e5]
  exact h.2
theorem KR_clue {r ni se : Int} (h : KR T mi mf) (hs : CST (sh1 (mi 6)) ni se (mi 17).toInt (mi' 17).toInt r) (h0 : 0 ≤ (mi 17).toInt) (e1 : mi' 6 = mi 6) (e2 : mf' 7 = mf 7) (e4 : mi' 67 = mi 67) (e5 : mf' 69 = mf 69) : r = CA T ni se ∧ KR (TC T ni se) mi' mf' := by
  obtain ⟨q0, q1, q2⟩ := KH_clue h.1 hs h0 e1 e2
  refine ⟨q0, q1, ?_⟩
  rw [q2, e4, e5]
  exact h.2
theorem KR_take (h : KR T mi mf) (hn : (mi 6).toInt ≤ 10) (e1 : mi' 6 = mi 6) (e2 : mf' 7 = mf 7) (e3 : mi' 17 = mi 17) (k0 : (mi' 67).toInt = 1) (k1 : ((mf' 69) 66).toInt = (mi 6).toInt) (k2 : SGT (mf' 69) (mf 7) 0 67 5 10) (k3 : ((mf' 69) 121).toInt = (mi 17).toInt) : KR (TI1 T) mi' mf' := by
  refine ⟨KH_eq h.1 e1 e2 e3, Or.inr ⟨T.1, by omega, rfl, ?_⟩⟩
  obtain ⟨h1, h2, h3⟩ := h.1
  exact ⟨by rw [← h1]; exact Int32.toInt_inj.mp k1, by rw [← h2]; exact Int32.toInt_inj.mp k3, fun j hj => by rw [SGT_z k2 (by rw [← h1] at hj; omega)]; exact h3 j hj⟩
theorem KR_give (h : KR T mi mf) (hb : (mi' 6).toInt ≤ 10) (k : ((mi 67).toInt = 0 ∧ (mi' 67).toInt = 0 ∧ (mi' 6).toInt = (mi 6).toInt ∧ mf' 7 = mf 7 ∧ (mi' 17).toInt = (mi 17).toInt) ∨ ((mi 67).toInt ≠ 0 ∧ (mi' 67).toInt ≠ 0 ∧ (mi' 6).toInt = ((mf 69) 66).toInt ∧ SGT (mf 69) (mf' 7) 0 67 5 10 ∧ (mi' 17).toInt = ((mf 69) 121).toInt)) (e5 : mf' 69 = mf 69) : KR (TI0 T) mi' mf' := by
  obtain ⟨h1, ⟨q1, q2⟩ | ⟨t, q1, q2, q3, q4, q5⟩⟩ := h
  · obtain ⟨-, k1, k2, k3, k4⟩ | ⟨k1, -⟩ := k
    · have e : TI0 T = T := by unfold TI0; rw [q2]
      rw [e]
      exact ⟨KH_eq h1 (Int32.toInt_inj.mp k2) k3 (Int32.toInt_inj.mp k4), Or.inl ⟨k1, q2⟩⟩
    · exact absurd q1 k1
  · obtain ⟨k1, -⟩ | ⟨-, k1, k2, k3, k4⟩ := k
    · exact absurd k1 q1
    · have e : TI0 T = (t, T.2) := by unfold TI0; rw [q2]
      rw [e]
      have en : mi' 6 = t.1 := (Int32.toInt_inj.mp k2).trans q3
      refine ⟨⟨en, (Int32.toInt_inj.mp k4).trans q4, fun j hj => ?_⟩, Or.inr ⟨t, k1, q2, ?_⟩⟩
      · rw [← SGT_z k3 (by rw [← en] at hj; omega)]; exact q5 j hj
      · rw [e5]; exact ⟨q3, q4, q5⟩
end KRs
def KBR (b : Nat → Int32) (n : Int32) (g : Nat → Int32) : Prop := (∀ j : Nat, (j : Int) < n.toInt → g j = b j) ∧ BZ n.toInt b
def KBJ (o : Option (Nat → Int32)) (h : Int32) (im : Nat → Int32) : Prop := (h.toInt = 0 ∧ o = none) ∨ (∃ b : Nat → Int32, h.toInt ≠ 0 ∧ o = some b ∧ (∀ j : Nat, (j : Int) < (im 66).toInt → im (71 + 5 * j) = b j) ∧ BZ (im 66).toInt b)
def KS (m : BV) (mi : Nat → Int32) (mf : Nat → Nat → Int32) : Prop := KBR m.1 (mi 6) (mf 11) ∧ KBJ m.2 (mi 67) (mf 69)
section KSs
variable {T : NB} {m : BV} {mi mi' : Nat → Int32} {mf mf' : Nat → Nat → Int32}
theorem KS_house (h : KS m mi mf) (h0 : 0 ≤ (mi 6).toInt) (h9 : (mi' 6).toInt ≤ 10) (hs : ((mi' 6).toInt = (mi 6).toInt + 1 ∧ BUP (mf 11) (mf' 11) (mi 6).toInt 0) ∨ ((mi' 6).toInt = (mi 6).toInt ∧ mf' 11 = mf 11)) (e4 : mi' 67 = mi 67) (e5 : mf' 69 = mf 69) : KS m mi' mf' := by
  obtain ⟨⟨h1, h2⟩, h3⟩ := h
  refine ⟨?_, by rw [e4, e5]; exact h3⟩
  rcases hs with ⟨q1, q2, q3⟩ | ⟨q1, q2⟩
  · refine ⟨fun j hj => ?_, BZ_more h2 (by omega)⟩
    by_cases c : j = (mi 6).toInt.toNat
    · rw [c, q2]; exact (h2.1 _ (by omega) (by omega)).symm
    · rw [q3 j c]; exact h1 j (by omega)
  · refine ⟨fun j hj => ?_, BZ_more h2 (by omega)⟩
    rw [q2]; exact h1 j (by omega)
theorem KS_fr {a b z : Int32} (h : KS T.2 mi mf) (hh : (mi 6).toInt = T.1.1.1.toInt) (h10 : (mi 6).toInt ≤ 10) (hs : (FRDC (mi 6).toInt a.toInt b.toInt ∧ mf' 11 = fru (mf 11) a b z) ∨ (¬ FRDC (mi 6).toInt a.toInt b.toInt ∧ mf' 11 = mf 11)) (e1 : mi' 6 = mi 6) (e4 : mi' 67 = mi 67) (e5 : mf' 69 = mf 69) : KS (TBf T a b z).2 mi' mf' := by
  obtain ⟨q1, q2⟩ := BF_of hh h10 hs h.1.1 h.1.2
  refine ⟨⟨by rw [e1]; exact q1, by rw [e1]; exact q2⟩, ?_⟩
  rw [e4, e5]
  exact h.2
theorem KS_wf (h : KS m mi mf) : WFF (mi 6).toInt (mf 11) := WFF_eq h.1.2.2 h.1.1
theorem KS_take (h : KS m mi mf) (hn : (mi 6).toInt ≤ 10) (e1 : mi' 6 = mi 6) (e2 : mf' 11 = mf 11) (k0 : (mi' 67).toInt = 1) (k1 : ((mf' 69) 66).toInt = (mi 6).toInt) (k2 : SGT (mf' 69) (mf 11) 0 71 5 10) : KS (BI1 m) mi' mf' := by
  refine ⟨by rw [e1, e2]; exact h.1, Or.inr ⟨m.1, by omega, rfl, fun j hj => ?_, by rw [k1]; exact h.1.2⟩⟩
  rw [k1] at hj
  rw [SGT_z k2 (by omega)]
  exact h.1.1 j hj
theorem KS_give (h : KS m mi mf) (hb : (mi' 6).toInt ≤ 10) (k : ((mi 67).toInt = 0 ∧ (mi' 67).toInt = 0 ∧ (mi' 6).toInt = (mi 6).toInt ∧ mf' 11 = mf 11) ∨ ((mi 67).toInt ≠ 0 ∧ (mi' 67).toInt ≠ 0 ∧ (mi' 6).toInt = ((mf 69) 66).toInt ∧ SGT (mf 69) (mf' 11) 0 71 5 10)) (e5 : mf' 69 = mf 69) : KS (BI0 m) mi' mf' := by
  obtain ⟨h1, ⟨q1, q2⟩ | ⟨t, q1, q2, q3, q4⟩⟩ := h
  · obtain ⟨-, k1, k2, k3⟩ | ⟨k1, -⟩ := k
    · have e : BI0 m = m := by unfold BI0; rw [q2]
      rw [e]
      exact ⟨⟨by rw [k2, k3]; exact h1.1, by rw [k2]; exact h1.2⟩, Or.inl ⟨k1, q2⟩⟩
    · exact absurd q1 k1
  · obtain ⟨k1, -⟩ | ⟨-, k1, k2, k3⟩ := k
    · exact absurd k1 q1
    · have e : BI0 m = (t, m.2) := by unfold BI0; rw [q2]
      rw [e]
      refine ⟨⟨fun j hj => ?_, by rw [k2]; exact q4⟩, Or.inr ⟨t, k1, q2, ?_⟩⟩
      · rw [← SGT_z k3 (by omega)]; exact q3 j (by omega)
      · rw [e5]; exact ⟨q3, q4⟩
theorem KS_eq (h : KS m mi mf) (e1 : mi' 6 = mi 6) (e2 : mf' 11 = mf 11) (e4 : mi' 67 = mi 67) (e5 : mf' 69 = mf 69) : KS m mi' mf' := by
  unfold KS at h ⊢
  rw [e1, e2, e4, e5]
  exact h
theorem KS_rooms {n r what : Int} (h : KS m mi mf) (hn : n = (mi 6).toInt) (hr : r = RMA (mf 11) n what) : r = RMA m.1 n what := by
  subst hn
  exact hr.trans (RMA_eq h.1.1)
end KSs
def RW (cI cJ : ClassId) (n : NB) (b : Nat) (ws : va_W) : Prop := ∃ (mr : Nat → Nat) (mi : Nat → Int32) (mf : Nat → Nat → Int32) (mg : Nat → Nat → Int64), ws = MW cI cJ b mr mi mf mg ∧ (KR n.1 mi mf ∧ KS n.2 mi mf) ∧ RF mi mf
theorem ref_i {l : Launch} {y : MethodName} {W : List Cond} {rm : Room} {avs : List Value} {D : va_G} {cI cJ : ClassId} {sz mc ms : Nat} {ws : va_W} {S : Type} {post : Int32 → S → Prop} {post' : Int32 → va_W → Prop} {w1 : S → va_W}
    (hM : Met l y W rm (va_Pc avs (PW D cI cJ sz ws xT)) (va_Qi post (fun u => QW D cI cJ (va_A ws sz) (w1 u)) (va_A ws sz)) mc ms (va_A ws sz)) (hpost : ∀ (r : Int32) (u : S), post r u → post' r (w1 u)) :
    Met l y W rm (va_Pc avs (PW D cI cJ sz ws xT)) (va_Qi post' (fun w => QW D cI cJ (va_A ws sz) w) (va_A ws sz)) mc ms (va_A ws sz) := by
  refine met_cq hM (fun _ _ h => h) ?_ (fun _ h => h)
  rintro a s o t _ ⟨⟨r, u, ho, hp1, hB⟩, hF⟩
  exact ⟨⟨r, w1 u, ho, hpost r u hp1, hB⟩, hF⟩
theorem ref_l {l : Launch} {y : MethodName} {W : List Cond} {rm : Room} {avs : List Value} {D : va_G} {cI cJ : ClassId} {sz mc ms : Nat} {ws : va_W} {S : Type} {post : Int64 → S → Prop} {post' : Int64 → va_W → Prop} {w1 : S → va_W}
    (hM : Met l y W rm (va_Pc avs (PW D cI cJ sz ws xT)) (va_Ql post (fun u => QW D cI cJ (va_A ws sz) (w1 u)) (va_A ws sz)) mc ms (va_A ws sz)) (hpost : ∀ (r : Int64) (u : S), post r u → post' r (w1 u)) :
    Met l y W rm (va_Pc avs (PW D cI cJ sz ws xT)) (va_Ql post' (fun w => QW D cI cJ (va_A ws sz) w) (va_A ws sz)) mc ms (va_A ws sz) := by
  refine met_cq hM (fun _ _ h => h) ?_ (fun _ h => h)
  rintro a s o t _ ⟨⟨r, u, ho, hp1, hB⟩, hF⟩
  exact ⟨⟨r, w1 u, ho, hpost r u hp1, hB⟩, hF⟩
set_option maxHeartbeats 8000000 in
set_option maxRecDepth 100000 in
theorem m_state (l : Launch) (D : va_G) (cI cJ : ClassId) (sz : Nat) (n : NB) (b : Nat) (ws : va_W) (hc : RW cI cJ n b ws) (z_v : Int32)  : Met l yX12_state (Cond.code yX12_state cX12_state 3 (some .int) :: GW) ({ frames := 1, cells := 0, slots := 0, locals := 40 } : Room) (va_Pc [.ref b, .int z_v] (PW D cI cJ sz ws xT)) (va_Qi (fun (r : Int32) (w : va_W) => RW cI cJ n b w) (fun w => QW D cI cJ (va_A ws sz) w) (va_A ws sz)) 0 0 (va_A ws sz) := by
  obtain ⟨mr, mi, mf, mg, rfl, hn, hI⟩ := hc
  obtain ⟨r0, r1, r2, r3, r4, r5, r6, r7, r8, r9, r10, r11, r12, r13, r14, r15, r16, r17, r18, r19, r20, r21, r22⟩ := hI
  refine ref_i (s_stateB l D cI cJ sz b mr mi mf mg z_v) ?_
  intro r u hp
  obtain ⟨p0, p1, p2, p3⟩ := hp
  have p0 : u.2.2.toInt = 0 := p0
  have p1 : (u.2.1 2).toInt = ((mf 1) 2).toInt := p1
  have p2 : (u.2.1 3).toInt = ((mf 1) 3).toInt := p2
  have p3 : (u.2.1 5).toInt = ((mf 1) 5).toInt := p3
  exact ⟨mr, (upd (upd mi 0 u.1) 3 u.2.2), (va_up mf 1 u.2.1), mg, rfl, hn, ⟨r0, (show (0 ≤ (u.2.1 2).toInt ∧ (u.2.1 2).toInt ≤ 150) from by omega), (show (0 ≤ (u.2.1 3).toInt ∧ (u.2.1 3).toInt ≤ 9) from by omega), (show (0 ≤ (u.2.1 5).toInt ∧ (u.2.1 5).toInt ≤ 200) from by omega), r4, r5, r6, r7, r8, r9, r10, (show (0 ≤ u.2.2.toInt ∧ u.2.2.toInt ≤ 6) from by omega), r12, r13, (show (rowsOK u.2.2.toInt (mi 6).toInt (mf 2)) from rowsOK_nil (by omega)), r15, r16, r17, r18, (show ((((mi 6).toInt = 0 ∧ (u.2.1 3).toInt = 0) ∨ (u.2.1 3).toInt < (mi 6).toInt)) from by omega), r20, r21, r22⟩⟩
set_option maxHeartbeats 8000000 in
set_option maxRecDepth 100000 in
theorem m_house (l : Launch) (D : va_G) (cI cJ : ClassId) (sz : Nat) (n : NB) (b : Nat) (ws : va_W) (hc : RW cI cJ n b ws) (z_place : Int32) (z_people : Int32) (z_oil : Int32)  : Met l yX12_house (Cond.code yX12_house cX12_house 5 (some .int) :: GW) ({ frames := 2, cells := 0, slots := 0, locals := 63 } : Room) (va_Pc [.ref b, .int z_place, .int z_people, .int z_oil] (PW D cI cJ sz ws xT)) (va_Qi (fun (r : Int32) (w : va_W) => RW cI cJ (TBh n z_place z_people.toInt z_oil.toInt) b w) (fun w => QW D cI cJ (va_A ws sz) w) (va_A ws sz)) 0 0 (va_A ws sz) := by
  obtain ⟨mr, mi, mf, mg, rfl, hn, hI⟩ := hc
  obtain ⟨r0, r1, r2, r3, r4, r5, r6, r7, r8, r9, r10, r11, r12, r13, r14, r15, r16, r17, r18, r19, r20, r21, r22⟩ := hI
  refine ref_i (s_houseB l D cI cJ sz b mr mi mf mg z_place z_people z_oil r0 r11 r14 r15) ?_
  intro r u hp
  obtain ⟨p0, p1, p2, p3, p4, p5, p6, l0, l1, f0, f1⟩ := hp
  have p0 : 0 ≤ u.2.2.2.2.2.2.2.1.toInt ∧ u.2.2.2.2.2.2.2.1.toInt ≤ 10 := p0
  have p1 : (mi 6).toInt ≤ u.2.2.2.2.2.2.2.1.toInt := p1
  have p2 : u.2.2.2.2.2.2.2.1.toInt ≤ (mi 6).toInt + 1 := p2
  have p3 : 0 ≤ u.2.2.2.2.2.2.2.2.toInt ∧ u.2.2.2.2.2.2.2.2.toInt ≤ 6 := p3
  have p4 : (u.2.2.2.2.2.2.1 2).toInt = ((mf 1) 2).toInt := p4
  have p5 : (u.2.2.2.2.2.2.1 3).toInt = ((mf 1) 3).toInt := p5
  have p6 : (u.2.2.2.2.2.2.1 5).toInt = ((mf 1) 5).toInt := p6
  exact ⟨mr, (upd (upd (upd mi 0 u.1) 6 u.2.2.2.2.2.2.2.1) 3 u.2.2.2.2.2.2.2.2), (va_up (va_up (va_up (va_up (va_up (va_up mf 7 u.2.1) 8 u.2.2.1) 9 u.2.2.2.1) 10 u.2.2.2.2.1) 11 u.2.2.2.2.2.1) 1 u.2.2.2.2.2.2.1), mg, rfl, ⟨(KR_house hn.1 f0 r0.1 rfl rfl rfl), (KS_house hn.2 r0.1 (show u.2.2.2.2.2.2.2.1.toInt ≤ 10 from by omega) f1 rfl rfl)⟩, ⟨(show (0 ≤ u.2.2.2.2.2.2.2.1.toInt ∧ u.2.2.2.2.2.2.2.1.toInt ≤ 10) from by omega), (show (0 ≤ (u.2.2.2.2.2.2.1 2).toInt ∧ (u.2.2.2.2.2.2.1 2).toInt ≤ 150) from by omega), (show (0 ≤ (u.2.2.2.2.2.2.1 3).toInt ∧ (u.2.2.2.2.2.2.1 3).toInt ≤ 9) from by omega), (show (0 ≤ (u.2.2.2.2.2.2.1 5).toInt ∧ (u.2.2.2.2.2.2.1 5).toInt ≤ 200) from by omega), r4, r5, r6, r7, r8, r9, r10, (show (0 ≤ u.2.2.2.2.2.2.2.2.toInt ∧ u.2.2.2.2.2.2.2.2.toInt ≤ 6) from by omega), r12, r13, l0, l1, r16, r17, (show (rndOK (mi 49).toInt u.2.2.2.2.2.2.2.1.toInt (mf 50)) from rndOK_more r18 (by omega)), (show (((u.2.2.2.2.2.2.2.1.toInt = 0 ∧ (u.2.2.2.2.2.2.1 3).toInt = 0) ∨ (u.2.2.2.2.2.2.1 3).toInt < u.2.2.2.2.2.2.2.1.toInt)) from by omega), r20, r21, r22⟩⟩
set_option maxHeartbeats 8000000 in
set_option maxRecDepth 100000 in
theorem m_friends (l : Launch) (D : va_G) (cI cJ : ClassId) (sz : Nat) (n : NB) (b : Nat) (ws : va_W) (hc : RW cI cJ n b ws) (z_a : Int32) (z_b : Int32) (z_are : Int32)  : Met l yX12_friends (Cond.code yX12_friends cX12_friends 4 (some .boolean) :: GW) ({ frames := 2, cells := 0, slots := 0, locals := 61 } : Room) (va_Pc [.ref b, .int z_a, .int z_b, .int z_are] (PW D cI cJ sz ws xT)) (va_Qi (fun (r : Int32) (w : va_W) => RW cI cJ (TBf n z_a z_b z_are) b w) (fun w => QW D cI cJ (va_A ws sz) w) (va_A ws sz)) 0 0 (va_A ws sz) := by
  obtain ⟨mr, mi, mf, mg, rfl, hn, hI⟩ := hc
  obtain ⟨r0, r1, r2, r3, r4, r5, r6, r7, r8, r9, r10, r11, r12, r13, r14, r15, r16, r17, r18, r19, r20, r21, r22⟩ := hI
  refine ref_i (s_friendsG l D cI cJ sz b mr mi mf mg z_a z_b z_are r0 r11) ?_
  intro r u hp
  obtain ⟨p0, p1, f0⟩ := hp
  have p0 : 0 ≤ u.2.2.toInt ∧ u.2.2.toInt ≤ 6 := p0
  have p1 : u.2.2.toInt ≤ (mi 3).toInt := p1
  exact ⟨mr, (upd (upd mi 0 u.1) 3 u.2.2), (va_up mf 11 u.2.1), mg, rfl, ⟨hn.1, (KS_fr (T := n) hn.2 (congrArg Int32.toInt hn.1.1.1) r0.2 f0 rfl rfl rfl)⟩, ⟨r0, r1, r2, r3, r4, r5, r6, r7, r8, r9, r10, (show (0 ≤ u.2.2.toInt ∧ u.2.2.toInt ≤ 6) from by omega), r12, r13, (show (rowsOK u.2.2.toInt (mi 6).toInt (mf 2)) from rowsOK_less r14 (by omega)), r15, r16, r17, r18, r19, r20, r21, r22⟩⟩
set_option maxHeartbeats 8000000 in
set_option maxRecDepth 100000 in
theorem m_feed (l : Launch) (D : va_G) (cI cJ : ClassId) (sz : Nat) (n : NB) (b : Nat) (ws : va_W) (hc : RW cI cJ n b ws) (z_a : Int32) (z_b : Int32) (z_c : Int32) (z_d : Int32) (z_e : Int32)  : Met l yX12_feed (Cond.code yX12_feed cX12_feed 6 (some .int) :: GW) ({ frames := 2, cells := 0, slots := 0, locals := 62 } : Room) (va_Pc [.ref b, .int z_a, .int z_b, .int z_c, .int z_d, .int z_e] (PW D cI cJ sz ws xT)) (va_Qi (fun (r : Int32) (w : va_W) => RW cI cJ n b w) (fun w => QW D cI cJ (va_A ws sz) w) (va_A ws sz)) 0 0 (va_A ws sz) := by
  obtain ⟨mr, mi, mf, mg, rfl, hn, hI⟩ := hc
  obtain ⟨r0, r1, r2, r3, r4, r5, r6, r7, r8, r9, r10, r11, r12, r13, r14, r15, r16, r17, r18, r19, r20, r21, r22⟩ := hI
  refine ref_i (s_feedB l D cI cJ sz b mr mi mf mg z_a z_b z_c z_d z_e r12) ?_
  intro r u hp
  obtain ⟨p0, qa⟩ := hp
  have p0 : 0 ≤ u.2.2.toInt ∧ u.2.2.toInt ≤ 400 := p0
  exact ⟨mr, (upd (upd mi 0 u.1) 21 u.2.2), (va_up mf 20 u.2.1), mg, rfl, hn, ⟨r0, r1, r2, r3, r4, r5, r6, r7, r8, r9, r10, r11, (show (0 ≤ u.2.2.toInt ∧ u.2.2.toInt ≤ 400) from by omega), r13, r14, r15, r16, r17, r18, r19, r20, r21, r22⟩⟩
set_option maxHeartbeats 8000000 in
set_option maxRecDepth 100000 in
theorem m_end (l : Launch) (D : va_G) (cI cJ : ClassId) (sz : Nat) (n : NB) (b : Nat) (ws : va_W) (hc : RW cI cJ n b ws) (z_k : Int32)  : Met l yX12_end (Cond.code yX12_end cX12_end 2 (some .boolean) :: GW) ({ frames := 2, cells := 0, slots := 0, locals := 63 } : Room) (va_Pc [.ref b, .int z_k] (PW D cI cJ sz ws xT)) (va_Qi (fun (r : Int32) (w : va_W) => RW cI cJ n b w) (fun w => QW D cI cJ (va_A ws sz) w) (va_A ws sz)) 0 0 (va_A ws sz) := by
  obtain ⟨mr, mi, mf, mg, rfl, hn, hI⟩ := hc
  obtain ⟨r0, r1, r2, r3, r4, r5, r6, r7, r8, r9, r10, r11, r12, r13, r14, r15, r16, r17, r18, r19, r20, r21, r22⟩ := hI
  refine ref_i (s_endB l D cI cJ sz b mr mi mf mg z_k r12) ?_
  intro r u hp
  obtain ⟨p0, qa⟩ := hp
  have p0 : 0 ≤ u.2.toInt ∧ u.2.toInt ≤ 400 := p0
  exact ⟨mr, (upd (upd mi 0 u.1) 21 u.2), mf, mg, rfl, hn, ⟨r0, r1, r2, r3, r4, r5, r6, r7, r8, r9, r10, r11, (show (0 ≤ u.2.toInt ∧ u.2.toInt ≤ 400) from by omega), r13, r14, r15, r16, r17, r18, r19, r20, r21, r22⟩⟩
set_option maxHeartbeats 8000000 in
set_option maxRecDepth 100000 in
theorem m_fault (l : Launch) (D : va_G) (cI cJ : ClassId) (sz : Nat) (n : NB) (b : Nat) (ws : va_W) (hc : RW cI cJ n b ws) (z_what : Int32)  : Met l yX12_fault (Cond.code yX12_fault cX12_fault 2 (some .int) :: GW) ({ frames := 1, cells := 0, slots := 0, locals := 40 } : Room) (va_Pc [.ref b, .int z_what] (PW D cI cJ sz ws xT)) (va_Qi (fun (r : Int32) (w : va_W) => RW cI cJ n b w) (fun w => QW D cI cJ (va_A ws sz) w) (va_A ws sz)) 0 0 (va_A ws sz) := by
  obtain ⟨mr, mi, mf, mg, rfl, hn, hI⟩ := hc
  obtain ⟨r0, r1, r2, r3, r4, r5, r6, r7, r8, r9, r10, r11, r12, r13, r14, r15, r16, r17, r18, r19, r20, r21, r22⟩ := hI
  refine ref_i (s_fault l D cI cJ sz b mr mi mf mg z_what) ?_
  intro r u hp
  exact ⟨mr, (upd mi 0 u), mf, mg, rfl, hn, ⟨r0, r1, r2, r3, r4, r5, r6, r7, r8, r9, r10, r11, r12, r13, r14, r15, r16, r17, r18, r19, r20, r21, r22⟩⟩
set_option maxHeartbeats 8000000 in
set_option maxRecDepth 100000 in
theorem m_nights (l : Launch) (D : va_G) (cI cJ : ClassId) (sz : Nat) (n : NB) (b : Nat) (ws : va_W) (hc : RW cI cJ n b ws) (z_n : Int32)  : Met l yX12_nights (Cond.code yX12_nights cX12_nights 4 (some .int) :: GW) ({ frames := 8, cells := 0, slots := 0, locals := 201 } : Room) (va_Pc [.ref b, .int z_n] (PW D cI cJ sz ws xT)) (va_Qi (fun (r : Int32) (w : va_W) => RW cI cJ n b w) (fun w => QW D cI cJ (va_A ws sz) w) (va_A ws sz)) 0 0 (va_A ws sz) := by
  obtain ⟨mr, mi, mf, mg, rfl, hn, hI⟩ := hc
  obtain ⟨r0, r1, r2, r3, r4, r5, r6, r7, r8, r9, r10, r11, r12, r13, r14, r15, r16, r17, r18, r19, r20, r21, r22⟩ := hI
  refine ref_i (s_nights l D cI cJ sz b mr mi mf mg z_n r0 r1 r2 r3 r4 r5 r6.1 r6.2 r7.1 r7.2 r8 r9 r11 r22 r16 r17 r18 r14 r19) ?_
  intro r u hp
  obtain ⟨p0, p1, p2, p3, p4, p5, p6, p7, l0, l1⟩ := hp
  have p0 : 0 ≤ (u.2.1 2).toInt := p0
  have p1 : (u.2.1 2).toInt ≤ 150 := p1
  have p2 : 0 ≤ (u.2.1 5).toInt := p2
  have p3 : (u.2.1 5).toInt ≤ 200 := p3
  have p4 : 0 ≤ (u.2.1 3).toInt := p4
  have p5 : (u.2.1 3).toInt ≤ 9 := p5
  have p6 : 0 ≤ u.2.2.2.1.toInt := p6
  have p7 : u.2.2.2.1.toInt ≤ 6 := p7
  exact ⟨mr, (upd (upd mi 0 u.1) 3 u.2.2.2.1), (va_up (va_up (va_up (va_up (va_up (va_up mf 1 u.2.1) 2 u.2.2.1) 55 u.2.2.2.2.1) 53 u.2.2.2.2.2.1) 54 u.2.2.2.2.2.2.1) 16 u.2.2.2.2.2.2.2), mg, rfl, hn, ⟨r0, (show (0 ≤ (u.2.1 2).toInt ∧ (u.2.1 2).toInt ≤ 150) from by omega), (show (0 ≤ (u.2.1 3).toInt ∧ (u.2.1 3).toInt ≤ 9) from by omega), (show (0 ≤ (u.2.1 5).toInt ∧ (u.2.1 5).toInt ≤ 200) from by omega), r4, r5, r6, r7, r8, r9, r10, (show (0 ≤ u.2.2.2.1.toInt ∧ u.2.2.2.1.toInt ≤ 6) from by omega), r12, r13, l0, r15, r16, r17, r18, l1, r20, r21, r22⟩⟩
set_option maxHeartbeats 8000000 in
set_option maxRecDepth 100000 in
theorem m_of (l : Launch) (D : va_G) (cI cJ : ClassId) (sz : Nat) (n : NB) (b : Nat) (ws : va_W) (hc : RW cI cJ n b ws) (z_house : Int32) (z_what : Int32)  : Met l yX12_of (Cond.code yX12_of cX12_of 3 (some .int) :: GW) ({ frames := 6, cells := 0, slots := 0, locals := 151 } : Room) (va_Pc [.ref b, .int z_house, .int z_what] (PW D cI cJ sz ws xT)) (va_Qi (fun (r : Int32) (w : va_W) => RW cI cJ n b w) (fun w => QW D cI cJ (va_A ws sz) w) (va_A ws sz)) 0 0 (va_A ws sz) := by
  obtain ⟨mr, mi, mf, mg, rfl, hn, hI⟩ := hc
  obtain ⟨r0, r1, r2, r3, r4, r5, r6, r7, r8, r9, r10, r11, r12, r13, r14, r15, r16, r17, r18, r19, r20, r21, r22⟩ := hI
  refine ref_i (s_of l D cI cJ sz b mr mi mf mg z_house z_what r0 r1 r2 r3 r4 r5 r6.1 r6.2 r7.1 r7.2 r8 r9 r22 r16 r17) ?_
  intro r u hp
  exact ⟨mr, (upd mi 0 u.1), (va_up (va_up (va_up mf 55 u.2.1) 53 u.2.2.1) 54 u.2.2.2), mg, rfl, hn, ⟨r0, r1, r2, r3, r4, r5, r6, r7, r8, r9, r10, r11, r12, r13, r14, r15, r16, r17, r18, r19, r20, r21, r22⟩⟩
set_option maxHeartbeats 8000000 in
set_option maxRecDepth 100000 in
theorem m_far (l : Launch) (D : va_G) (cI cJ : ClassId) (sz : Nat) (n : NB) (b : Nat) (ws : va_W) (hc : RW cI cJ n b ws) (z_a : Int32) (z_b : Int32)  : Met l yX12_far (Cond.code yX12_far cX12_far 3 (some .int) :: GW) ({ frames := 2, cells := 0, slots := 0, locals := 65 } : Room) (va_Pc [.ref b, .int z_a, .int z_b] (PW D cI cJ sz ws xT)) (va_Qi (fun (r : Int32) (w : va_W) => RW cI cJ n b w) (fun w => QW D cI cJ (va_A ws sz) w) (va_A ws sz)) 0 0 (va_A ws sz) := by
  obtain ⟨mr, mi, mf, mg, rfl, hn, hI⟩ := hc
  obtain ⟨r0, r1, r2, r3, r4, r5, r6, r7, r8, r9, r10, r11, r12, r13, r14, r15, r16, r17, r18, r19, r20, r21, r22⟩ := hI
  refine ref_i (s_far l D cI cJ sz b mr mi mf mg z_a z_b r0 r5 r22) ?_
  intro r u hp
  exact ⟨mr, (upd mi 0 u.1), (va_up mf 55 u.2), mg, rfl, hn, ⟨r0, r1, r2, r3, r4, r5, r6, r7, r8, r9, r10, r11, r12, r13, r14, r15, r16, r17, r18, r19, r20, r21, r22⟩⟩
set_option maxHeartbeats 8000000 in
set_option maxRecDepth 100000 in
theorem m_need (l : Launch) (D : va_G) (cI cJ : ClassId) (sz : Nat) (n : NB) (b : Nat) (ws : va_W) (hc : RW cI cJ n b ws) (z_i : Int32) (z_what : Int32)  : Met l yX12_need (Cond.code yX12_need cX12_need 3 (some .int) :: GW) ({ frames := 3, cells := 0, slots := 0, locals := 84 } : Room) (va_Pc [.ref b, .int z_i, .int z_what] (PW D cI cJ sz ws xT)) (va_Qi (fun (r : Int32) (w : va_W) => RW cI cJ n b w) (fun w => QW D cI cJ (va_A ws sz) w) (va_A ws sz)) 0 0 (va_A ws sz) := by
  obtain ⟨mr, mi, mf, mg, rfl, hn, hI⟩ := hc
  obtain ⟨r0, r1, r2, r3, r4, r5, r6, r7, r8, r9, r10, r11, r12, r13, r14, r15, r16, r17, r18, r19, r20, r21, r22⟩ := hI
  refine ref_i (s_need l D cI cJ sz b mr mi mf mg z_i z_what r4) ?_
  intro r u hp
  exact ⟨mr, (upd mi 0 u), mf, mg, rfl, hn, ⟨r0, r1, r2, r3, r4, r5, r6, r7, r8, r9, r10, r11, r12, r13, r14, r15, r16, r17, r18, r19, r20, r21, r22⟩⟩
set_option maxHeartbeats 8000000 in
set_option maxRecDepth 100000 in
theorem m_book (l : Launch) (D : va_G) (cI cJ : ClassId) (sz : Nat) (n : NB) (b : Nat) (ws : va_W) (hc : RW cI cJ n b ws) (z_i : Int32) (z_what : Int32)  : Met l yX12_book (Cond.code yX12_book cX12_book 3 (some .int) :: GW) ({ frames := 2, cells := 0, slots := 0, locals := 63 } : Room) (va_Pc [.ref b, .int z_i, .int z_what] (PW D cI cJ sz ws xT)) (va_Qi (fun (r : Int32) (w : va_W) => RW cI cJ n b w) (fun w => QW D cI cJ (va_A ws sz) w) (va_A ws sz)) 0 0 (va_A ws sz) := by
  obtain ⟨mr, mi, mf, mg, rfl, hn, hI⟩ := hc
  obtain ⟨r0, r1, r2, r3, r4, r5, r6, r7, r8, r9, r10, r11, r12, r13, r14, r15, r16, r17, r18, r19, r20, r21, r22⟩ := hI
  refine ref_i (s_book l D cI cJ sz b mr mi mf mg z_i z_what r1) ?_
  intro r u hp
  exact ⟨mr, (upd mi 0 u), mf, mg, rfl, hn, ⟨r0, r1, r2, r3, r4, r5, r6, r7, r8, r9, r10, r11, r12, r13, r14, r15, r16, r17, r18, r19, r20, r21, r22⟩⟩
set_option maxHeartbeats 8000000 in
set_option maxRecDepth 100000 in
theorem m_run (l : Launch) (D : va_G) (cI cJ : ClassId) (sz : Nat) (n : NB) (b : Nat) (ws : va_W) (hc : RW cI cJ n b ws) (z_n : Int32) (z_what : Int32)  : Met l yX12_run (Cond.code yX12_run cX12_run 4 (some .int) :: GW) ({ frames := 9, cells := 0, slots := 0, locals := 224 } : Room) (va_Pc [.ref b, .int z_n, .int z_what] (PW D cI cJ sz ws xT)) (va_Qi (fun (r : Int32) (w : va_W) => RW cI cJ n b w) (fun w => QW D cI cJ (va_A ws sz) w) (va_A ws sz)) 0 0 (va_A ws sz) := by
  obtain ⟨mr, mi, mf, mg, rfl, hn, hI⟩ := hc
  obtain ⟨r0, r1, r2, r3, r4, r5, r6, r7, r8, r9, r10, r11, r12, r13, r14, r15, r16, r17, r18, r19, r20, r21, r22⟩ := hI
  refine ref_i (s_run l D cI cJ sz b mr mi mf mg z_n z_what r0 r1 r2 r3 r4 r5 r6.1 r6.2 r7.1 r7.2 r8 r9 r22 r16 r17 r18 r19) ?_
  intro r u hp
  obtain ⟨p0, p1, p2⟩ := hp
  have p0 : (u.2.1 2).toInt = ((mf 1) 2).toInt := p0
  have p1 : (u.2.1 3).toInt = ((mf 1) 3).toInt := p1
  have p2 : (u.2.1 5).toInt = ((mf 1) 5).toInt := p2
  exact ⟨mr, (upd (upd (upd (upd (upd mi 0 u.1) 5 u.2.2.2.1) 56 u.2.2.2.2.1) 57 u.2.2.2.2.2.1) 58 u.2.2.2.2.2.2.1), (va_up (va_up (va_up (va_up (va_up (va_up mf 1 u.2.1) 4 u.2.2.1) 55 u.2.2.2.2.2.2.2.1) 53 u.2.2.2.2.2.2.2.2.1) 54 u.2.2.2.2.2.2.2.2.2.1) 16 u.2.2.2.2.2.2.2.2.2.2), mg, rfl, hn, ⟨r0, (show (0 ≤ (u.2.1 2).toInt ∧ (u.2.1 2).toInt ≤ 150) from by omega), (show (0 ≤ (u.2.1 3).toInt ∧ (u.2.1 3).toInt ≤ 9) from by omega), (show (0 ≤ (u.2.1 5).toInt ∧ (u.2.1 5).toInt ≤ 200) from by omega), r4, r5, r6, r7, r8, r9, r10, r11, r12, r13, r14, r15, r16, r17, r18, (show ((((mi 6).toInt = 0 ∧ (u.2.1 3).toInt = 0) ∨ (u.2.1 3).toInt < (mi 6).toInt)) from by omega), r20, r21, r22⟩⟩
set_option maxHeartbeats 8000000 in
set_option maxRecDepth 100000 in
theorem m_plan (l : Launch) (D : va_G) (cI cJ : ClassId) (sz : Nat) (n : NB) (b : Nat) (ws : va_W) (hc : RW cI cJ n b ws) (z_n : Int32) (z_what : Int32)  : Met l yX12_plan (Cond.code yX12_plan cX12_plan 8 (some .int) :: GW) ({ frames := 6, cells := 0, slots := 0, locals := 165 } : Room) (va_Pc [.ref b, .int z_n, .int z_what] (PW D cI cJ sz ws xT)) (va_Qi (fun (r : Int32) (w : va_W) => RW cI cJ n b w) (fun w => QW D cI cJ (va_A ws sz) w) (va_A ws sz)) 0 0 (va_A ws sz) := by
  obtain ⟨mr, mi, mf, mg, rfl, hn, hI⟩ := hc
  obtain ⟨r0, r1, r2, r3, r4, r5, r6, r7, r8, r9, r10, r11, r12, r13, r14, r15, r16, r17, r18, r19, r20, r21, r22⟩ := hI
  refine ref_i (s_plan l D cI cJ sz b mr mi mf mg z_n z_what r0 r1 r2 r3 r4 r5 r22 r19) ?_
  intro r u hp
  exact ⟨mr, (upd mi 0 u.1), (va_up (va_up mf 55 u.2.1) 59 u.2.2), mg, rfl, hn, ⟨r0, r1, r2, r3, r4, r5, r6, r7, r8, r9, r10, r11, r12, r13, r14, r15, r16, r17, r18, r19, r20, r21, r22⟩⟩
set_option maxHeartbeats 8000000 in
set_option maxRecDepth 100000 in
theorem m_mend (l : Launch) (D : va_G) (cI cJ : ClassId) (sz : Nat) (n : NB) (b : Nat) (ws : va_W) (hc : RW cI cJ n b ws) (z_house : Int32)  : Met l yX12_mend (Cond.code yX12_mend cX12_mend 4 (some .int) :: GW) ({ frames := 2, cells := 0, slots := 0, locals := 64 } : Room) (va_Pc [.ref b, .int z_house] (PW D cI cJ sz ws xT)) (va_Qi (fun (r : Int32) (w : va_W) => RW cI cJ n b w) (fun w => QW D cI cJ (va_A ws sz) w) (va_A ws sz)) 0 0 (va_A ws sz) := by
  obtain ⟨mr, mi, mf, mg, rfl, hn, hI⟩ := hc
  obtain ⟨r0, r1, r2, r3, r4, r5, r6, r7, r8, r9, r10, r11, r12, r13, r14, r15, r16, r17, r18, r19, r20, r21, r22⟩ := hI
  refine ref_i (s_mend l D cI cJ sz b mr mi mf mg z_house r0 r15) ?_
  intro r u hp
  exact ⟨mr, (upd mi 0 u.1), (va_up mf 60 u.2), mg, rfl, hn, ⟨r0, r1, r2, r3, r4, r5, r6, r7, r8, r9, r10, r11, r12, r13, r14, r15, r16, r17, r18, r19, r20, r21, r22⟩⟩
