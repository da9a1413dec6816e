set_option maxHeartbeats 8000000 in
set_option maxRecDepth 100000 in
theorem m_rooms (l : Launch) (D : va_G) (cI cJ : ClassId) (sz : Nat) (n : NB) (b : Nat) (ws : va_W) (hc : RW cI cJ n b ws) (z_what : Int32)  : Met l yX12_rooms (Cond.code yX12_rooms cX12_rooms 2 (some .int) :: GW) ({ frames := 4, cells := 0, slots := 0, locals := 110 } : Room) (va_Pc [.ref b, .int z_what] (PW D cI cJ sz ws xT)) (va_Qi (fun (r : Int32) (w : va_W) => r.toInt = RMA n.2.1 n.1.1.1.toInt z_what.toInt ∧ RW cI cJ n b w) (fun w => QW D cI cJ (va_A ws sz) w) (va_A ws sz)) 0 0 (va_A ws sz) := by
  obtain ⟨mr, mi, mf, mg, rfl, hn, hI⟩ := hc
  obtain ⟨r0, r1, r2, r3, r4, r5, r6, r7, r8, r9, r10, r11, r12, r13, r14, r15, r16, r17, r18, r19, r20, r21, r22⟩ := hI
  refine ref_i (s_roomsB l D cI cJ sz b mr mi mf mg z_what r0 (KS_wf hn.2)) ?_
  intro r u hp
  have f0 := hp
  exact ⟨KS_rooms hn.2 (congrArg Int32.toInt hn.1.1.1).symm (by rw [← hn.1.1.1]; exact f0), ⟨mr, (upd mi 0 u.1), (va_up mf 61 u.2), mg, rfl, hn, ⟨r0, r1, r2, r3, r4, r5, r6, r7, r8, r9, r10, r11, r12, r13, r14, r15, r16, r17, r18, r19, r20, r21, r22⟩⟩⟩
set_option maxHeartbeats 8000000 in
set_option maxRecDepth 100000 in
theorem m_sale (l : Launch) (D : va_G) (cI cJ : ClassId) (sz : Nat) (n : NB) (b : Nat) (ws : va_W) (hc : RW cI cJ n b ws) (z_what : Int32)  : Met l yX12_sale (Cond.code yX12_sale cX12_sale 4 (some .int) :: GW) ({ frames := 2, cells := 0, slots := 0, locals := 63 } : Room) (va_Pc [.ref b, .int z_what] (PW D cI cJ sz ws xT)) (va_Qi (fun (r : Int32) (w : va_W) => RW cI cJ n b w) (fun w => QW D cI cJ (va_A ws sz) w) (va_A ws sz)) 0 0 (va_A ws sz) := by
  obtain ⟨mr, mi, mf, mg, rfl, hn, hI⟩ := hc
  obtain ⟨r0, r1, r2, r3, r4, r5, r6, r7, r8, r9, r10, r11, r12, r13, r14, r15, r16, r17, r18, r19, r20, r21, r22⟩ := hI
  refine ref_i (s_sale l D cI cJ sz b mr mi mf mg z_what r0) ?_
  intro r u hp
  exact ⟨mr, (upd mi 0 u), mf, mg, rfl, hn, ⟨r0, r1, r2, r3, r4, r5, r6, r7, r8, r9, r10, r11, r12, r13, r14, r15, r16, r17, r18, r19, r20, r21, r22⟩⟩
set_option maxHeartbeats 8000000 in
set_option maxRecDepth 100000 in
theorem m_liars (l : Launch) (D : va_G) (cI cJ : ClassId) (sz : Nat) (n : NB) (b : Nat) (ws : va_W) (hc : RW cI cJ n b ws)   : Met l yX12_liars (Cond.code yX12_liars cX12_liars 3 (some .int) :: GW) ({ frames := 1, cells := 0, slots := 0, locals := 40 } : Room) (va_Pc [.ref b] (PW D cI cJ sz ws xT)) (va_Qi (fun (r : Int32) (w : va_W) => RW cI cJ n b w) (fun w => QW D cI cJ (va_A ws sz) w) (va_A ws sz)) 0 0 (va_A ws sz) := by
  obtain ⟨mr, mi, mf, mg, rfl, hn, hI⟩ := hc
  obtain ⟨r0, r1, r2, r3, r4, r5, r6, r7, r8, r9, r10, r11, r12, r13, r14, r15, r16, r17, r18, r19, r20, r21, r22⟩ := hI
  refine ref_i (s_liars l D cI cJ sz b mr mi mf mg r0) ?_
  intro r u hp
  exact ⟨mr, (upd mi 0 u), mf, mg, rfl, hn, ⟨r0, r1, r2, r3, r4, r5, r6, r7, r8, r9, r10, r11, r12, r13, r14, r15, r16, r17, r18, r19, r20, r21, r22⟩⟩
set_option maxHeartbeats 8000000 in
set_option maxRecDepth 100000 in
theorem m_sure (l : Launch) (D : va_G) (cI cJ : ClassId) (sz : Nat) (n : NB) (b : Nat) (ws : va_W) (hc : RW cI cJ n b ws) (z_h : Int32) (z_g : Int32) (z_k : Int32)  : Met l yX12_sure (Cond.code yX12_sure cX12_sure 4 (some .int) :: GW) ({ frames := 5, cells := 0, slots := 0, locals := 134 } : Room) (va_Pc [.ref b, .int z_h, .int z_g, .int z_k] (PW D cI cJ sz ws xT)) (va_Qi (fun (r : Int32) (w : va_W) => RW cI cJ n b w) (fun w => QW D cI cJ (va_A ws sz) w) (va_A ws sz)) 0 0 (va_A ws sz) := by
  obtain ⟨mr, mi, mf, mg, rfl, hn, hI⟩ := hc
  obtain ⟨r0, r1, r2, r3, r4, r5, r6, r7, r8, r9, r10, r11, r12, r13, r14, r15, r16, r17, r18, r19, r20, r21, r22⟩ := hI
  refine ref_i (s_sure l D cI cJ sz b mr mi mf mg z_h z_g z_k r0 r5 r22) ?_
  intro r u hp
  exact ⟨mr, (upd mi 0 u.1), (va_up (va_up (va_up mf 55 u.2.1) 62 u.2.2.1) 63 u.2.2.2), mg, rfl, hn, ⟨r0, r1, r2, r3, r4, r5, r6, r7, r8, r9, r10, r11, r12, r13, r14, r15, r16, r17, r18, r19, r20, r21, r22⟩⟩
set_option maxHeartbeats 8000000 in
set_option maxRecDepth 100000 in
theorem m_best (l : Launch) (D : va_G) (cI cJ : ClassId) (sz : Nat) (n : NB) (b : Nat) (ws : va_W) (hc : RW cI cJ n b ws) (z_goal : Int32) (z_k : Int32)  : Met l yX12_best (Cond.code yX12_best cX12_best 8 (some .int) :: GW) ({ frames := 5, cells := 0, slots := 0, locals := 134 } : Room) (va_Pc [.ref b, .int z_goal, .int z_k] (PW D cI cJ sz ws xT)) (va_Qi (fun (r : Int32) (w : va_W) => RW cI cJ n b w) (fun w => QW D cI cJ (va_A ws sz) w) (va_A ws sz)) 0 0 (va_A ws sz) := by
  obtain ⟨mr, mi, mf, mg, rfl, hn, hI⟩ := hc
  obtain ⟨r0, r1, r2, r3, r4, r5, r6, r7, r8, r9, r10, r11, r12, r13, r14, r15, r16, r17, r18, r19, r20, r21, r22⟩ := hI
  refine ref_i (s_best l D cI cJ sz b mr mi mf mg z_goal z_k r0 r5 r2 r22) ?_
  intro r u hp
  exact ⟨mr, (upd mi 0 u.1), (va_up (va_up (va_up mf 55 u.2.1) 62 u.2.2.1) 63 u.2.2.2), mg, rfl, hn, ⟨r0, r1, r2, r3, r4, r5, r6, r7, r8, r9, r10, r11, r12, r13, r14, r15, r16, r17, r18, r19, r20, r21, r22⟩⟩
set_option maxHeartbeats 8000000 in
set_option maxRecDepth 100000 in
theorem m_clue (l : Launch) (D : va_G) (cI cJ : ClassId) (sz : Nat) (n : NB) (b : Nat) (ws : va_W) (hc : RW cI cJ n b ws) (z_night : Int32) (z_set : Int32)  : Met l yX12_clue (Cond.code yX12_clue cX12_clue 3 (some .int) :: GW) ({ frames := 2, cells := 0, slots := 0, locals := 63 } : Room) (va_Pc [.ref b, .int z_night, .int z_set] (PW D cI cJ sz ws xT)) (va_Qi (fun (r : Int32) (w : va_W) => r.toInt = CA n.1 z_night.toInt z_set.toInt ∧ RW cI cJ (TBc n z_night.toInt z_set.toInt) b w) (fun w => QW D cI cJ (va_A ws sz) w) (va_A ws sz)) 0 0 (va_A ws sz) := by
  obtain ⟨mr, mi, mf, mg, rfl, hn, hI⟩ := hc
  obtain ⟨r0, r1, r2, r3, r4, r5, r6, r7, r8, r9, r10, r11, r12, r13, r14, r15, r16, r17, r18, r19, r20, r21, r22⟩ := hI
  refine ref_i (s_clueB l D cI cJ sz b mr mi mf mg z_night z_set r0 r10) ?_
  intro r u hp
  obtain ⟨p0, f0⟩ := hp
  have p0 : 0 ≤ u.2.1.toInt ∧ u.2.1.toInt ≤ 8 := p0
  obtain ⟨q0, q1⟩ := KR_clue (mi' := (upd (upd mi 0 u.1) 17 u.2.1)) (mf' := (va_up (va_up mf 18 u.2.2.1) 19 u.2.2.2)) hn.1 f0 r10.1 rfl rfl rfl rfl
  exact ⟨q0, ⟨mr, (upd (upd mi 0 u.1) 17 u.2.1), (va_up (va_up mf 18 u.2.2.1) 19 u.2.2.2), mg, rfl, ⟨q1, KS_eq hn.2 rfl rfl rfl rfl⟩, ⟨r0, r1, r2, r3, r4, r5, r6, r7, r8, r9, (show (0 ≤ u.2.1.toInt ∧ u.2.1.toInt ≤ 8) from by omega), r11, r12, r13, r14, r15, r16, r17, r18, r19, r20, r21, r22⟩⟩⟩
set_option maxHeartbeats 8000000 in
set_option maxRecDepth 100000 in
theorem m_ways (l : Launch) (D : va_G) (cI cJ : ClassId) (sz : Nat) (n : NB) (b : Nat) (ws : va_W) (hc : RW cI cJ n b ws) (z_n : Int32)  : Met l yX12_ways (Cond.code yX12_ways cX12_ways 2 (some .long) :: GW) ({ frames := 5, cells := 0, slots := 0, locals := 131 } : Room) (va_Pc [.ref b, .int z_n] (PW D cI cJ sz ws xT)) (va_Ql (fun (r : Int64) (w : va_W) => RW cI cJ n b w) (fun w => QW D cI cJ (va_A ws sz) w) (va_A ws sz)) 0 0 (va_A ws sz) := by
  obtain ⟨mr, mi, mf, mg, rfl, hn, hI⟩ := hc
  obtain ⟨r0, r1, r2, r3, r4, r5, r6, r7, r8, r9, r10, r11, r12, r13, r14, r15, r16, r17, r18, r19, r20, r21, r22⟩ := hI
  refine ref_l (s_ways l D cI cJ sz b mr mi mf mg z_n r0 r10 r5 r22) ?_
  intro r u hp
  exact ⟨mr, (upd mi 0 u.1), (va_up mf 55 u.2.1), (va_up (va_up mg 64 u.2.2.1) 65 u.2.2.2), rfl, hn, ⟨r0, r1, r2, r3, r4, r5, r6, r7, r8, r9, r10, r11, r12, r13, r14, r15, r16, r17, r18, r19, r20, r21, r22⟩⟩
set_option maxHeartbeats 8000000 in
set_option maxRecDepth 100000 in
theorem m_been (l : Launch) (D : va_G) (cI cJ : ClassId) (sz : Nat) (n : NB) (b : Nat) (ws : va_W) (hc : RW cI cJ n b ws) (z_n : Int32) (z_night : Int32)  : Met l yX12_been (Cond.code yX12_been cX12_been 5 (some .int) :: GW) ({ frames := 5, cells := 0, slots := 0, locals := 131 } : Room) (va_Pc [.ref b, .int z_n, .int z_night] (PW D cI cJ sz ws xT)) (va_Qi (fun (r : Int32) (w : va_W) => RW cI cJ n b w) (fun w => QW D cI cJ (va_A ws sz) w) (va_A ws sz)) 0 0 (va_A ws sz) := by
  obtain ⟨mr, mi, mf, mg, rfl, hn, hI⟩ := hc
  obtain ⟨r0, r1, r2, r3, r4, r5, r6, r7, r8, r9, r10, r11, r12, r13, r14, r15, r16, r17, r18, r19, r20, r21, r22⟩ := hI
  refine ref_i (s_been l D cI cJ sz b mr mi mf mg z_n z_night r0 r10 r5 r22) ?_
  intro r u hp
  exact ⟨mr, (upd mi 0 u.1), (va_up mf 55 u.2.1), (va_up (va_up mg 64 u.2.2.1) 65 u.2.2.2), rfl, hn, ⟨r0, r1, r2, r3, r4, r5, r6, r7, r8, r9, r10, r11, r12, r13, r14, r15, r16, r17, r18, r19, r20, r21, r22⟩⟩
set_option maxHeartbeats 8000000 in
set_option maxRecDepth 100000 in
theorem m_ask (l : Launch) (D : va_G) (cI cJ : ClassId) (sz : Nat) (n : NB) (b : Nat) (ws : va_W) (hc : RW cI cJ n b ws) (z_n : Int32) (z_what : Int32)  : Met l yX12_ask (Cond.code yX12_ask cX12_ask 14 (some .int) :: GW) ({ frames := 5, cells := 0, slots := 0, locals := 131 } : Room) (va_Pc [.ref b, .int z_n, .int z_what] (PW D cI cJ sz ws xT)) (va_Qi (fun (r : Int32) (w : va_W) => RW cI cJ n b w) (fun w => QW D cI cJ (va_A ws sz) w) (va_A ws sz)) 0 0 (va_A ws sz) := by
  obtain ⟨mr, mi, mf, mg, rfl, hn, hI⟩ := hc
  obtain ⟨r0, r1, r2, r3, r4, r5, r6, r7, r8, r9, r10, r11, r12, r13, r14, r15, r16, r17, r18, r19, r20, r21, r22⟩ := hI
  refine ref_i (s_ask l D cI cJ sz b mr mi mf mg z_n z_what r0 r10 r5 r22) ?_
  intro r u hp
  exact ⟨mr, (upd mi 0 u.1), (va_up mf 55 u.2.1), (va_up (va_up mg 64 u.2.2.1) 65 u.2.2.2), rfl, hn, ⟨r0, r1, r2, r3, r4, r5, r6, r7, r8, r9, r10, r11, r12, r13, r14, r15, r16, r17, r18, r19, r20, r21, r22⟩⟩
set_option maxHeartbeats 8000000 in
set_option maxRecDepth 100000 in
theorem m_undo (l : Launch) (D : va_G) (cI cJ : ClassId) (sz : Nat) (n : NB) (b : Nat) (ws : va_W) (hc : RW cI cJ n b ws)   : Met l yX12_undo (Cond.code yX12_undo cX12_undo 2 (some .boolean) :: GW) ({ frames := 1, cells := 0, slots := 0, locals := 40 } : Room) (va_Pc [.ref b] (PW D cI cJ sz ws xT)) (va_Qi (fun (r : Int32) (w : va_W) => RW cI cJ n b w) (fun w => QW D cI cJ (va_A ws sz) w) (va_A ws sz)) 0 0 (va_A ws sz) := by
  obtain ⟨mr, mi, mf, mg, rfl, hn, hI⟩ := hc
  obtain ⟨r0, r1, r2, r3, r4, r5, r6, r7, r8, r9, r10, r11, r12, r13, r14, r15, r16, r17, r18, r19, r20, r21, r22⟩ := hI
  refine ref_i (s_undoB l D cI cJ sz b mr mi mf mg r0 r11 r1 r2 r3 r14 r19) ?_
  intro r u hp
  obtain ⟨p0, p1, p2, p3, l0, l1⟩ := hp
  have p0 : 0 ≤ u.2.1.toInt ∧ u.2.1.toInt ≤ 6 := p0
  have p1 : 0 ≤ (u.2.2 2).toInt ∧ (u.2.2 2).toInt ≤ 150 := p1
  have p2 : 0 ≤ (u.2.2 3).toInt ∧ (u.2.2 3).toInt ≤ 9 := p2
  have p3 : 0 ≤ (u.2.2 5).toInt ∧ (u.2.2 5).toInt ≤ 200 := p3
  exact ⟨mr, (upd (upd mi 0 u.1) 3 u.2.1), (va_up mf 1 u.2.2), mg, rfl, hn, ⟨r0, (show (0 ≤ (u.2.2 2).toInt ∧ (u.2.2 2).toInt ≤ 150) from by omega), (show (0 ≤ (u.2.2 3).toInt ∧ (u.2.2 3).toInt ≤ 9) from by omega), (show (0 ≤ (u.2.2 5).toInt ∧ (u.2.2 5).toInt ≤ 200) from by omega), r4, r5, r6, r7, r8, r9, r10, (show (0 ≤ u.2.1.toInt ∧ u.2.1.toInt ≤ 6) from by omega), r12, r13, l0, r15, r16, r17, r18, l1, r20, r21, r22⟩⟩
set_option maxHeartbeats 8000000 in
set_option maxRecDepth 100000 in
theorem m_look (l : Launch) (D : va_G) (cI cJ : ClassId) (sz : Nat) (n : NB) (b : Nat) (ws : va_W) (hc : RW cI cJ n b ws) (z_what : Int32)  : Met l yX12_look (Cond.code yX12_look cX12_look 2 (some .int) :: GW) ({ frames := 2, cells := 0, slots := 0, locals := 60 } : Room) (va_Pc [.ref b, .int z_what] (PW D cI cJ sz ws xT)) (va_Qi (fun (r : Int32) (w : va_W) => RW cI cJ n b w) (fun w => QW D cI cJ (va_A ws sz) w) (va_A ws sz)) 0 0 (va_A ws sz) := by
  obtain ⟨mr, mi, mf, mg, rfl, hn, hI⟩ := hc
  obtain ⟨r0, r1, r2, r3, r4, r5, r6, r7, r8, r9, r10, r11, r12, r13, r14, r15, r16, r17, r18, r19, r20, r21, r22⟩ := hI
  refine ref_i (s_look l D cI cJ sz b mr mi mf mg z_what r9) ?_
  intro r u hp
  exact ⟨mr, (upd mi 0 u), mf, mg, rfl, hn, ⟨r0, r1, r2, r3, r4, r5, r6, r7, r8, r9, r10, r11, r12, r13, r14, r15, r16, r17, r18, r19, r20, r21, r22⟩⟩
set_option maxHeartbeats 8000000 in
set_option maxRecDepth 100000 in
theorem m_set (l : Launch) (D : va_G) (cI cJ : ClassId) (sz : Nat) (n : NB) (b : Nat) (ws : va_W) (hc : RW cI cJ n b ws) (z_what : Int32) (z_who : Int32) (z_v : Int32)  : Met l yX12_set (Cond.code yX12_set cX12_set 4 (some .boolean) :: GW) ({ frames := 3, cells := 0, slots := 0, locals := 86 } : Room) (va_Pc [.ref b, .int z_what, .int z_who, .int z_v] (PW D cI cJ sz ws xT)) (va_Qi (fun (r : Int32) (w : va_W) => RW cI cJ n b w) (fun w => QW D cI cJ (va_A ws sz) w) (va_A ws sz)) 0 0 (va_A ws sz) := by
  obtain ⟨mr, mi, mf, mg, rfl, hn, hI⟩ := hc
  obtain ⟨r0, r1, r2, r3, r4, r5, r6, r7, r8, r9, r10, r11, r12, r13, r14, r15, r16, r17, r18, r19, r20, r21, r22⟩ := hI
  refine ref_i (s_set l D cI cJ sz b mr mi mf mg z_what z_who z_v r0 r11 r9 r14 r15) ?_
  intro r u hp
  obtain ⟨p0, p1, p2, p3, l0, l1, qa⟩ := hp
  have p0 : (-29) ≤ u.2.2.2.2.2.1.toInt ∧ u.2.2.2.2.2.1.toInt ≤ 69 := p0
  have p1 : 0 ≤ u.2.2.2.2.2.2.2.2.2.toInt ∧ u.2.2.2.2.2.2.2.2.2.toInt ≤ 6 := p1
  have p2 : (u.2.1 2).toInt = ((mf 1) 2).toInt := p2
  have p3 : (u.2.1 5).toInt = ((mf 1) 5).toInt := p3
  rcases qa with ⟨-, x1⟩ | ⟨-, x1⟩ | ⟨-, x1, x2⟩
  · exact ⟨mr, (upd (upd (upd (upd (upd (upd mi 0 u.1) 12 u.2.2.1) 13 u.2.2.2.1) 14 u.2.2.2.2.1) 15 u.2.2.2.2.2.1) 3 u.2.2.2.2.2.2.2.2.2), (va_up (va_up (va_up (va_up mf 1 u.2.1) 8 u.2.2.2.2.2.2.1) 9 u.2.2.2.2.2.2.2.1) 10 u.2.2.2.2.2.2.2.2.1), mg, rfl, hn, ⟨r0, (show (0 ≤ (u.2.1 2).toInt ∧ (u.2.1 2).toInt ≤ 150) from by omega), (show (0 ≤ (u.2.1 3).toInt ∧ (u.2.1 3).toInt ≤ 9) from by omega), (show (0 ≤ (u.2.1 5).toInt ∧ (u.2.1 5).toInt ≤ 200) from by omega), r4, r5, r6, r7, r8, (show (-29 ≤ u.2.2.2.2.2.1.toInt ∧ u.2.2.2.2.2.1.toInt ≤ 69) from by omega), r10, (show (0 ≤ u.2.2.2.2.2.2.2.2.2.toInt ∧ u.2.2.2.2.2.2.2.2.2.toInt ≤ 6) from by omega), r12, r13, l0, l1, r16, r17, r18, (show ((((mi 6).toInt = 0 ∧ (u.2.1 3).toInt = 0) ∨ (u.2.1 3).toInt < (mi 6).toInt)) from by omega), r20, r21, r22⟩⟩
  · exact ⟨mr, (upd (upd (upd (upd (upd (upd mi 0 u.1) 12 u.2.2.1) 13 u.2.2.2.1) 14 u.2.2.2.2.1) 15 u.2.2.2.2.2.1) 3 u.2.2.2.2.2.2.2.2.2), (va_up (va_up (va_up (va_up mf 1 u.2.1) 8 u.2.2.2.2.2.2.1) 9 u.2.2.2.2.2.2.2.1) 10 u.2.2.2.2.2.2.2.2.1), mg, rfl, hn, ⟨r0, (show (0 ≤ (u.2.1 2).toInt ∧ (u.2.1 2).toInt ≤ 150) from by omega), (show (0 ≤ (u.2.1 3).toInt ∧ (u.2.1 3).toInt ≤ 9) from by omega), (show (0 ≤ (u.2.1 5).toInt ∧ (u.2.1 5).toInt ≤ 200) from by omega), r4, r5, r6, r7, r8, (show (-29 ≤ u.2.2.2.2.2.1.toInt ∧ u.2.2.2.2.2.1.toInt ≤ 69) from by omega), r10, (show (0 ≤ u.2.2.2.2.2.2.2.2.2.toInt ∧ u.2.2.2.2.2.2.2.2.2.toInt ≤ 6) from by omega), r12, r13, l0, l1, r16, r17, r18, (show ((((mi 6).toInt = 0 ∧ (u.2.1 3).toInt = 0) ∨ (u.2.1 3).toInt < (mi 6).toInt)) from by omega), r20, r21, r22⟩⟩
  · exact ⟨mr, (upd (upd (upd (upd (upd (upd mi 0 u.1) 12 u.2.2.1) 13 u.2.2.2.1) 14 u.2.2.2.2.1) 15 u.2.2.2.2.2.1) 3 u.2.2.2.2.2.2.2.2.2), (va_up (va_up (va_up (va_up mf 1 u.2.1) 8 u.2.2.2.2.2.2.1) 9 u.2.2.2.2.2.2.2.1) 10 u.2.2.2.2.2.2.2.2.1), mg, rfl, hn, ⟨r0, (show (0 ≤ (u.2.1 2).toInt ∧ (u.2.1 2).toInt ≤ 150) from by omega), (show (0 ≤ (u.2.1 3).toInt ∧ (u.2.1 3).toInt ≤ 9) from by omega), (show (0 ≤ (u.2.1 5).toInt ∧ (u.2.1 5).toInt ≤ 200) from by omega), r4, r5, r6, r7, r8, (show (-29 ≤ u.2.2.2.2.2.1.toInt ∧ u.2.2.2.2.2.1.toInt ≤ 69) from by omega), r10, (show (0 ≤ u.2.2.2.2.2.2.2.2.2.toInt ∧ u.2.2.2.2.2.2.2.2.2.toInt ≤ 6) from by omega), r12, r13, l0, l1, r16, r17, r18, (show ((((mi 6).toInt = 0 ∧ (u.2.1 3).toInt = 0) ∨ (u.2.1 3).toInt < (mi 6).toInt)) from by omega), r20, r21, r22⟩⟩
set_option maxHeartbeats 8000000 in
set_option maxRecDepth 100000 in
theorem m_text (l : Launch) (D : va_G) (cI cJ : ClassId) (sz : Nat) (n : NB) (b : Nat) (ws : va_W) (hc : RW cI cJ n b ws) (z_k : Int32)  : Met l yX12_text (Cond.code yX12_text cX12_text 3 (some .int) :: GW) ({ frames := 11, cells := 0, slots := 0, locals := 255 } : Room) (va_Pc [.ref b, .int z_k] (PW D cI cJ sz ws xT)) (va_Qi (fun (r : Int32) (w : va_W) => RW cI cJ n b w) (fun w => QW D cI cJ (va_A ws sz) w) (va_A ws sz)) 0 0 (va_A ws sz) := by
  obtain ⟨mr, mi, mf, mg, rfl, hn, hI⟩ := hc
  obtain ⟨r0, r1, r2, r3, r4, r5, r6, r7, r8, r9, r10, r11, r12, r13, r14, r15, r16, r17, r18, r19, r20, r21, r22⟩ := hI
  rcases (show z_k.toInt < 0 ∨ z_k.toInt = 0 ∨ z_k.toInt = 1 ∨ z_k.toInt = 2 ∨ z_k.toInt = 3 ∨ z_k.toInt = 4 ∨ 4 < z_k.toInt from by omega) with hk | hk | hk | hk | hk | hk | hk
  · skip
    refine ref_i (s_textN l D cI cJ sz b mr mi mf mg z_k hk) ?_
    intro r u hp
    have p0 := hp
    have p0 : u.2.2.2.2.2.2.toInt = 0 := p0
    exact ⟨mr, (upd (upd (upd (upd (upd (upd (upd mi 0 u.1) 40 u.2.1) 41 u.2.2.1) 22 u.2.2.2.1) 34 u.2.2.2.2.1) 35 u.2.2.2.2.2.1) 21 u.2.2.2.2.2.2), mf, mg, rfl, hn, ⟨r0, r1, r2, r3, r4, r5, r6, r7, r8, r9, r10, r11, (show (0 ≤ u.2.2.2.2.2.2.toInt ∧ u.2.2.2.2.2.2.toInt ≤ 400) from by omega), r13, r14, r15, r16, r17, r18, r19, r20, r21, r22⟩⟩
  · skip
    obtain rfl : z_k = 0 := Int32.toInt_inj.mp (by rw [hk]; decide +kernel)
    refine ref_i (s_text0 l D cI cJ sz b mr mi mf mg r12 (by omega) r0 r6.1 r6.2 r7.1 r7.2 r8 r11 r5 r4 r20 r16 r17) ?_
    intro r u hp
    obtain ⟨p0, p1, p2, p3, p4, l0, l1⟩ := hp
    have p0 : u.2.2.2.2.2.2.1.toInt = 0 := p0
    have p1 : 0 ≤ (u.2.2.2.2.2.2.2.2.2.2.2.2.2.2.2.2.2.2.2.2 0).toInt := p1
    have p2 : (u.2.2.2.2.2.2.2.2.2.2.2.2.2.2.2.2.2.2.2.2 0).toInt ≤ 16 := p2
    have p3 : 0 ≤ (u.2.2.2.2.2.2.2.2.2.2.2.2.2.2.2.2.2.2.2.2 1).toInt := p3
    have p4 : (u.2.2.2.2.2.2.2.2.2.2.2.2.2.2.2.2.2.2.2.2 1).toInt ≤ 16 := p4
    exact ⟨mr, (upd (upd (upd (upd (upd (upd (upd (upd (upd (upd (upd (upd (upd (upd mi 0 u.1) 40 u.2.1) 41 u.2.2.1) 22 u.2.2.2.1) 34 u.2.2.2.2.1) 35 u.2.2.2.2.2.1) 21 u.2.2.2.2.2.2.1) 23 u.2.2.2.2.2.2.2.1) 24 u.2.2.2.2.2.2.2.2.1) 25 u.2.2.2.2.2.2.2.2.2.1) 38 u.2.2.2.2.2.2.2.2.2.2.2.2.1) 39 u.2.2.2.2.2.2.2.2.2.2.2.2.2.1) 37 u.2.2.2.2.2.2.2.2.2.2.2.2.2.2.2.1) 33 u.2.2.2.2.2.2.2.2.2.2.2.2.2.2.2.2.2.2.2.1), (va_up (va_up (va_up (va_up (va_up (va_up (va_up mf 31 u.2.2.2.2.2.2.2.2.2.2.1) 32 u.2.2.2.2.2.2.2.2.2.2.2.1) 36 u.2.2.2.2.2.2.2.2.2.2.2.2.2.2.1) 28 u.2.2.2.2.2.2.2.2.2.2.2.2.2.2.2.2.1) 29 u.2.2.2.2.2.2.2.2.2.2.2.2.2.2.2.2.2.1) 30 u.2.2.2.2.2.2.2.2.2.2.2.2.2.2.2.2.2.2.1) 27 u.2.2.2.2.2.2.2.2.2.2.2.2.2.2.2.2.2.2.2.2), mg, rfl, hn, ⟨r0, r1, r2, r3, r4, r5, (show (0 ≤ (u.2.2.2.2.2.2.2.2.2.2.2.2.2.2.2.2.2.2.2.2 0).toInt ∧ (u.2.2.2.2.2.2.2.2.2.2.2.2.2.2.2.2.2.2.2.2 0).toInt ≤ 16) from by omega), (show (0 ≤ (u.2.2.2.2.2.2.2.2.2.2.2.2.2.2.2.2.2.2.2.2 1).toInt ∧ (u.2.2.2.2.2.2.2.2.2.2.2.2.2.2.2.2.2.2.2.2 1).toInt ≤ 16) from by omega), r8, r9, r10, r11, (show (0 ≤ u.2.2.2.2.2.2.1.toInt ∧ u.2.2.2.2.2.2.1.toInt ≤ 400) from by omega), r13, r14, r15, l0, l1, r18, r19, r20, r21, r22⟩⟩
  · skip
    obtain rfl : z_k = 1 := Int32.toInt_inj.mp (by rw [hk]; decide +kernel)
    refine ref_i (s_text1 l D cI cJ sz b mr mi mf mg r12 (by omega) r0 r6.1 r6.2 r7.1 r7.2 r8 r11 r5 r4 r20 r16 r17) ?_
    intro r u hp
    obtain ⟨p0, p1, p2, p3, p4, l0, l1⟩ := hp
    have p0 : u.2.2.2.2.2.2.1.toInt = 0 := p0
    have p1 : 0 ≤ (u.2.2.2.2.2.2.2.2.2.2.2.2.2.2.2.2.2.2.2.2 0).toInt := p1
    have p2 : (u.2.2.2.2.2.2.2.2.2.2.2.2.2.2.2.2.2.2.2.2 0).toInt ≤ 16 := p2
    have p3 : 0 ≤ (u.2.2.2.2.2.2.2.2.2.2.2.2.2.2.2.2.2.2.2.2 1).toInt := p3
    have p4 : (u.2.2.2.2.2.2.2.2.2.2.2.2.2.2.2.2.2.2.2.2 1).toInt ≤ 16 := p4
    exact ⟨mr, (upd (upd (upd (upd (upd (upd (upd (upd (upd (upd (upd (upd (upd (upd mi 0 u.1) 40 u.2.1) 41 u.2.2.1) 22 u.2.2.2.1) 34 u.2.2.2.2.1) 35 u.2.2.2.2.2.1) 21 u.2.2.2.2.2.2.1) 23 u.2.2.2.2.2.2.2.1) 24 u.2.2.2.2.2.2.2.2.1) 25 u.2.2.2.2.2.2.2.2.2.1) 38 u.2.2.2.2.2.2.2.2.2.2.2.2.1) 39 u.2.2.2.2.2.2.2.2.2.2.2.2.2.1) 37 u.2.2.2.2.2.2.2.2.2.2.2.2.2.2.2.1) 33 u.2.2.2.2.2.2.2.2.2.2.2.2.2.2.2.2.2.2.2.1), (va_up (va_up (va_up (va_up (va_up (va_up (va_up mf 31 u.2.2.2.2.2.2.2.2.2.2.1) 32 u.2.2.2.2.2.2.2.2.2.2.2.1) 36 u.2.2.2.2.2.2.2.2.2.2.2.2.2.2.1) 28 u.2.2.2.2.2.2.2.2.2.2.2.2.2.2.2.2.1) 29 u.2.2.2.2.2.2.2.2.2.2.2.2.2.2.2.2.2.1) 30 u.2.2.2.2.2.2.2.2.2.2.2.2.2.2.2.2.2.2.1) 27 u.2.2.2.2.2.2.2.2.2.2.2.2.2.2.2.2.2.2.2.2), mg, rfl, hn, ⟨r0, r1, r2, r3, r4, r5, (show (0 ≤ (u.2.2.2.2.2.2.2.2.2.2.2.2.2.2.2.2.2.2.2.2 0).toInt ∧ (u.2.2.2.2.2.2.2.2.2.2.2.2.2.2.2.2.2.2.2.2 0).toInt ≤ 16) from by omega), (show (0 ≤ (u.2.2.2.2.2.2.2.2.2.2.2.2.2.2.2.2.2.2.2.2 1).toInt ∧ (u.2.2.2.2.2.2.2.2.2.2.2.2.2.2.2.2.2.2.2.2 1).toInt ≤ 16) from by omega), r8, r9, r10, r11, (show (0 ≤ u.2.2.2.2.2.2.1.toInt ∧ u.2.2.2.2.2.2.1.toInt ≤ 400) from by omega), r13, r14, r15, l0, l1, r18, r19, r20, r21, r22⟩⟩
  · skip
    obtain rfl : z_k = 2 := Int32.toInt_inj.mp (by rw [hk]; decide +kernel)
    refine ref_i (s_text2 l D cI cJ sz b mr mi mf mg r12 (by omega) r0 r6.1 r6.2 r7.1 r7.2 r8 r11 r5 r4 r22 r20 r14) ?_
    intro r u hp
    obtain ⟨p0, p1, p2, p3, p4, a0, l0⟩ := hp
    have p0 : u.2.2.2.2.2.2.1.toInt = 0 := p0
    have p1 : 0 ≤ u.2.2.2.2.2.2.2.2.2.2.2.2.2.2.1.toInt := p1
    have p2 : u.2.2.2.2.2.2.2.2.2.2.2.2.2.2.1.toInt ≤ 40 := p2
    have p3 : 0 ≤ u.2.2.2.2.2.2.2.2.2.2.2.2.2.2.2.toInt := p3
    have p4 : u.2.2.2.2.2.2.2.2.2.2.2.2.2.2.2.toInt ≤ 6 := p4
    exact ⟨mr, (upd (upd (upd (upd (upd (upd (upd (upd (upd (upd (upd (upd (upd (upd (upd mi 0 u.1) 40 u.2.1) 41 u.2.2.1) 22 u.2.2.2.1) 34 u.2.2.2.2.1) 35 u.2.2.2.2.2.1) 21 u.2.2.2.2.2.2.1) 23 u.2.2.2.2.2.2.2.1) 24 u.2.2.2.2.2.2.2.2.1) 25 u.2.2.2.2.2.2.2.2.2.1) 38 u.2.2.2.2.2.2.2.2.2.2.1) 39 u.2.2.2.2.2.2.2.2.2.2.2.1) 33 u.2.2.2.2.2.2.2.2.2.2.2.2.1) 42 u.2.2.2.2.2.2.2.2.2.2.2.2.2.2.1) 3 u.2.2.2.2.2.2.2.2.2.2.2.2.2.2.2), (va_up mf 43 u.2.2.2.2.2.2.2.2.2.2.2.2.2.1), mg, rfl, hn, ⟨r0, r1, r2, r3, r4, (show (0 ≤ u.2.2.2.2.2.2.2.2.2.2.2.2.2.2.1.toInt ∧ u.2.2.2.2.2.2.2.2.2.2.2.2.2.2.1.toInt ≤ 40) from by omega), r6, r7, r8, r9, r10, (show (0 ≤ u.2.2.2.2.2.2.2.2.2.2.2.2.2.2.2.toInt ∧ u.2.2.2.2.2.2.2.2.2.2.2.2.2.2.2.toInt ≤ 6) from by omega), (show (0 ≤ u.2.2.2.2.2.2.1.toInt ∧ u.2.2.2.2.2.2.1.toInt ≤ 400) from by omega), r13, l0, r15, r16, r17, r18, r19, r20, r21, a0⟩⟩
  · skip
    obtain rfl : z_k = 3 := Int32.toInt_inj.mp (by rw [hk]; decide +kernel)
    refine ref_i (s_text3 l D cI cJ sz b mr mi mf mg r12 (by omega) r0 r6.1 r6.2 r7.1 r7.2 r8 r11 r5 r4 r20 r14) ?_
    intro r u hp
    obtain ⟨p0, p1, p2, p3, p4, p5, p6, p7, l0⟩ := hp
    have p0 : u.2.2.2.2.2.2.1.toInt = 0 := p0
    have p1 : 0 ≤ u.2.2.2.2.2.2.2.2.2.2.2.2.2.2.1.toInt := p1
    have p2 : u.2.2.2.2.2.2.2.2.2.2.2.2.2.2.1.toInt ≤ 10 := p2
    have p3 : 0 ≤ u.2.2.2.2.2.2.2.2.2.2.2.2.2.2.2.2.toInt := p3
    have p4 : u.2.2.2.2.2.2.2.2.2.2.2.2.2.2.2.2.toInt ≤ 6 := p4
    have p5 : (u.2.2.2.2.2.2.2.2.2.2.2.2.2.2.2.1 2).toInt = ((mf 1) 2).toInt := p5
    have p6 : (u.2.2.2.2.2.2.2.2.2.2.2.2.2.2.2.1 3).toInt = ((mf 1) 3).toInt := p6
    have p7 : (u.2.2.2.2.2.2.2.2.2.2.2.2.2.2.2.1 5).toInt = ((mf 1) 5).toInt := p7
    exact ⟨mr, (upd (upd (upd (upd (upd (upd (upd (upd (upd (upd (upd (upd (upd (upd (upd mi 0 u.1) 40 u.2.1) 41 u.2.2.1) 22 u.2.2.2.1) 34 u.2.2.2.2.1) 35 u.2.2.2.2.2.1) 21 u.2.2.2.2.2.2.1) 23 u.2.2.2.2.2.2.2.1) 24 u.2.2.2.2.2.2.2.2.1) 25 u.2.2.2.2.2.2.2.2.2.1) 38 u.2.2.2.2.2.2.2.2.2.2.1) 39 u.2.2.2.2.2.2.2.2.2.2.2.1) 33 u.2.2.2.2.2.2.2.2.2.2.2.2.1) 44 u.2.2.2.2.2.2.2.2.2.2.2.2.2.2.1) 3 u.2.2.2.2.2.2.2.2.2.2.2.2.2.2.2.2), (va_up (va_up mf 45 u.2.2.2.2.2.2.2.2.2.2.2.2.2.1) 1 u.2.2.2.2.2.2.2.2.2.2.2.2.2.2.2.1), mg, rfl, hn, ⟨r0, (show (0 ≤ (u.2.2.2.2.2.2.2.2.2.2.2.2.2.2.2.1 2).toInt ∧ (u.2.2.2.2.2.2.2.2.2.2.2.2.2.2.2.1 2).toInt ≤ 150) from by omega), (show (0 ≤ (u.2.2.2.2.2.2.2.2.2.2.2.2.2.2.2.1 3).toInt ∧ (u.2.2.2.2.2.2.2.2.2.2.2.2.2.2.2.1 3).toInt ≤ 9) from by omega), (show (0 ≤ (u.2.2.2.2.2.2.2.2.2.2.2.2.2.2.2.1 5).toInt ∧ (u.2.2.2.2.2.2.2.2.2.2.2.2.2.2.2.1 5).toInt ≤ 200) from by omega), (show (0 ≤ u.2.2.2.2.2.2.2.2.2.2.2.2.2.2.1.toInt ∧ u.2.2.2.2.2.2.2.2.2.2.2.2.2.2.1.toInt ≤ 10) from by omega), r5, r6, r7, r8, r9, r10, (show (0 ≤ u.2.2.2.2.2.2.2.2.2.2.2.2.2.2.2.2.toInt ∧ u.2.2.2.2.2.2.2.2.2.2.2.2.2.2.2.2.toInt ≤ 6) from by omega), (show (0 ≤ u.2.2.2.2.2.2.1.toInt ∧ u.2.2.2.2.2.2.1.toInt ≤ 400) from by omega), r13, l0, r15, r16, r17, r18, (show ((((mi 6).toInt = 0 ∧ (u.2.2.2.2.2.2.2.2.2.2.2.2.2.2.2.1 3).toInt = 0) ∨ (u.2.2.2.2.2.2.2.2.2.2.2.2.2.2.2.1 3).toInt < (mi 6).toInt)) from by omega), r20, r21, r22⟩⟩
  · skip
    obtain rfl : z_k = 4 := Int32.toInt_inj.mp (by rw [hk]; decide +kernel)
    refine ref_i (s_text4 l D cI cJ sz b mr mi mf mg r12 (by omega) r0 r6.1 r6.2 r7.1 r7.2 r8 r11 r5 r4 r3 r20 r14 r18) ?_
    intro r u hp
    obtain ⟨p0, p1, p2, p3, p4, p5, p6, p7, p8, l0, l1⟩ := hp
    have p0 : u.2.2.2.2.2.2.1.toInt = 0 := p0
    have p1 : 0 ≤ u.2.2.2.2.2.2.2.2.2.2.2.2.2.2.2.2.2.2.2.1.toInt := p1
    have p2 : u.2.2.2.2.2.2.2.2.2.2.2.2.2.2.2.2.2.2.2.1.toInt ≤ 200 := p2
    have p3 : 0 ≤ u.2.2.2.2.2.2.2.2.2.2.2.2.2.2.2.2.2.2.2.2.2.toInt := p3
    have p4 : u.2.2.2.2.2.2.2.2.2.2.2.2.2.2.2.2.2.2.2.2.2.toInt ≤ 6 := p4
    have p5 : (u.2.2.2.2.2.2.2.2.2.2.2.2.2.2.2.2.2.2.2.2.1 2).toInt = ((mf 1) 2).toInt := p5
    have p6 : (u.2.2.2.2.2.2.2.2.2.2.2.2.2.2.2.2.2.2.2.2.1 3).toInt = ((mf 1) 3).toInt := p6
    have p7 : 0 ≤ (u.2.2.2.2.2.2.2.2.2.2.2.2.2.2.2.2.2.2.2.2.1 5).toInt := p7
    have p8 : (u.2.2.2.2.2.2.2.2.2.2.2.2.2.2.2.2.2.2.2.2.1 5).toInt ≤ 200 := p8
    exact ⟨mr, (upd (upd (upd (upd (upd (upd (upd (upd (upd (upd (upd (upd (upd (upd (upd (upd mi 0 u.1) 40 u.2.1) 41 u.2.2.1) 22 u.2.2.2.1) 34 u.2.2.2.2.1) 35 u.2.2.2.2.2.1) 21 u.2.2.2.2.2.2.1) 23 u.2.2.2.2.2.2.2.1) 24 u.2.2.2.2.2.2.2.2.1) 25 u.2.2.2.2.2.2.2.2.2.1) 38 u.2.2.2.2.2.2.2.2.2.2.1) 39 u.2.2.2.2.2.2.2.2.2.2.2.1) 48 u.2.2.2.2.2.2.2.2.2.2.2.2.2.2.1) 33 u.2.2.2.2.2.2.2.2.2.2.2.2.2.2.2.2.2.2.1) 49 u.2.2.2.2.2.2.2.2.2.2.2.2.2.2.2.2.2.2.2.1) 3 u.2.2.2.2.2.2.2.2.2.2.2.2.2.2.2.2.2.2.2.2.2), (va_up (va_up (va_up (va_up (va_up (va_up mf 46 u.2.2.2.2.2.2.2.2.2.2.2.2.1) 47 u.2.2.2.2.2.2.2.2.2.2.2.2.2.1) 51 u.2.2.2.2.2.2.2.2.2.2.2.2.2.2.2.1) 52 u.2.2.2.2.2.2.2.2.2.2.2.2.2.2.2.2.1) 50 u.2.2.2.2.2.2.2.2.2.2.2.2.2.2.2.2.2.1) 1 u.2.2.2.2.2.2.2.2.2.2.2.2.2.2.2.2.2.2.2.2.1), mg, rfl, hn, ⟨r0, (show (0 ≤ (u.2.2.2.2.2.2.2.2.2.2.2.2.2.2.2.2.2.2.2.2.1 2).toInt ∧ (u.2.2.2.2.2.2.2.2.2.2.2.2.2.2.2.2.2.2.2.2.1 2).toInt ≤ 150) from by omega), (show (0 ≤ (u.2.2.2.2.2.2.2.2.2.2.2.2.2.2.2.2.2.2.2.2.1 3).toInt ∧ (u.2.2.2.2.2.2.2.2.2.2.2.2.2.2.2.2.2.2.2.2.1 3).toInt ≤ 9) from by omega), (show (0 ≤ (u.2.2.2.2.2.2.2.2.2.2.2.2.2.2.2.2.2.2.2.2.1 5).toInt ∧ (u.2.2.2.2.2.2.2.2.2.2.2.2.2.2.2.2.2.2.2.2.1 5).toInt ≤ 200) from by omega), r4, r5, r6, r7, (show (0 ≤ u.2.2.2.2.2.2.2.2.2.2.2.2.2.2.2.2.2.2.2.1.toInt ∧ u.2.2.2.2.2.2.2.2.2.2.2.2.2.2.2.2.2.2.2.1.toInt ≤ 200) from by omega), r9, r10, (show (0 ≤ u.2.2.2.2.2.2.2.2.2.2.2.2.2.2.2.2.2.2.2.2.2.toInt ∧ u.2.2.2.2.2.2.2.2.2.2.2.2.2.2.2.2.2.2.2.2.2.toInt ≤ 6) from by omega), (show (0 ≤ u.2.2.2.2.2.2.1.toInt ∧ u.2.2.2.2.2.2.1.toInt ≤ 400) from by omega), r13, l0, r15, r16, r17, l1, (show ((((mi 6).toInt = 0 ∧ (u.2.2.2.2.2.2.2.2.2.2.2.2.2.2.2.2.2.2.2.2.1 3).toInt = 0) ∨ (u.2.2.2.2.2.2.2.2.2.2.2.2.2.2.2.2.2.2.2.2.1 3).toInt < (mi 6).toInt)) from by omega), r20, r21, r22⟩⟩
  · skip
    refine ref_i (s_textP l D cI cJ sz b mr mi mf mg z_k hk) ?_
    intro r u hp
    have p0 := hp
    have p0 : u.2.2.2.2.2.2.toInt = 0 := p0
    exact ⟨mr, (upd (upd (upd (upd (upd (upd (upd mi 0 u.1) 40 u.2.1) 41 u.2.2.1) 22 u.2.2.2.1) 34 u.2.2.2.2.1) 35 u.2.2.2.2.2.1) 21 u.2.2.2.2.2.2), mf, mg, rfl, hn, ⟨r0, r1, r2, r3, r4, r5, r6, r7, r8, r9, r10, r11, (show (0 ≤ u.2.2.2.2.2.2.toInt ∧ u.2.2.2.2.2.2.toInt ≤ 400) from by omega), r13, r14, r15, r16, r17, r18, r19, r20, r21, r22⟩⟩
set_option maxHeartbeats 8000000 in
set_option maxRecDepth 100000 in
theorem m_image (l : Launch) (D : va_G) (cI cJ : ClassId) (sz : Nat) (n : NB) (b : Nat) (ws : va_W) (hc : RW cI cJ n b ws) (z_taken : Int32) (hz : z_taken.toInt = 0 ∨ z_taken.toInt = 1) : Met l yX12_image (Cond.code yX12_image cX12_image 3 (some .boolean) :: GW) ({ frames := 3, cells := 0, slots := 0, locals := 83 } : Room) (va_Pc [.ref b, .int z_taken] (PW D cI cJ sz ws xT)) (va_Qi (fun (r : Int32) (w : va_W) => RW cI cJ (TBi n z_taken.toInt) b w) (fun w => QW D cI cJ (va_A ws sz) w) (va_A ws sz)) 0 0 (va_A ws sz) := by
  obtain ⟨mr, mi, mf, mg, rfl, hn, hI⟩ := hc
  obtain ⟨r0, r1, r2, r3, r4, r5, r6, r7, r8, r9, r10, r11, r12, r13, r14, r15, r16, r17, r18, r19, r20, r21, r22⟩ := hI
  rcases hz with hz | hz
  · skip
    obtain rfl : z_taken = 0 := Int32.toInt_inj.mp (by rw [hz]; decide +kernel)
    refine ref_i (s_image0B l D cI cJ sz b mr mi mf mg r0 r1 r2 r3 r4 r5 r6.1 r6.2 r7.1 r7.2 r8 r9 r10 r11 r22 r15 r18 r16 r17 r19 r14 r21) ?_
    intro r u hp
    obtain ⟨p0, p1, p2, p3, p4, p5, p6, p7, p8, p9, p10, p11, p12, p13, p14, p15, p16, p17, p18, p19, p20, p21, p22, p23, p24, p25, a0, l0, l1, l2, l3, l4, l5, l6, f0, f1⟩ := hp
    have p0 : 0 ≤ r.toInt := p0
    have p1 : r.toInt ≤ 1 := p1
    have p2 : 0 ≤ (u.2.2.2.1 2).toInt := p2
    have p3 : (u.2.2.2.1 2).toInt ≤ 150 := p3
    have p4 : 0 ≤ (u.2.2.2.1 3).toInt := p4
    have p5 : (u.2.2.2.1 3).toInt ≤ 9 := p5
    have p6 : 0 ≤ (u.2.2.2.1 5).toInt := p6
    have p7 : (u.2.2.2.1 5).toInt ≤ 200 := p7
    have p8 : 0 ≤ u.2.2.2.2.2.1.toInt := p8
    have p9 : u.2.2.2.2.2.1.toInt ≤ 10 := p9
    have p10 : (-29) ≤ u.2.2.2.2.2.2.2.2.2.2.2.2.2.2.1.toInt := p10
    have p11 : u.2.2.2.2.2.2.2.2.2.2.2.2.2.2.1.toInt ≤ 69 := p11
    have p12 : 0 ≤ u.2.2.2.2.2.2.2.2.2.2.2.2.2.2.2.1.toInt := p12
    have p13 : u.2.2.2.2.2.2.2.2.2.2.2.2.2.2.2.1.toInt ≤ 8 := p13
    have p14 : 0 ≤ u.2.2.2.2.2.2.2.2.2.2.2.2.2.2.2.2.2.2.1.toInt := p14
    have p15 : u.2.2.2.2.2.2.2.2.2.2.2.2.2.2.2.2.2.2.1.toInt ≤ 40 := p15
    have p16 : 0 ≤ u.2.2.2.2.2.2.2.2.2.2.2.2.2.2.2.2.2.2.2.2.1.toInt := p16
    have p17 : u.2.2.2.2.2.2.2.2.2.2.2.2.2.2.2.2.2.2.2.2.1.toInt ≤ 10 := p17
    have p18 : 0 ≤ u.2.2.2.2.2.2.2.2.2.2.2.2.2.2.2.2.2.2.2.2.2.2.1.toInt := p18
    have p19 : u.2.2.2.2.2.2.2.2.2.2.2.2.2.2.2.2.2.2.2.2.2.2.1.toInt ≤ 200 := p19
    have p20 : 0 ≤ (u.2.2.2.2.2.2.2.2.2.2.2.2.2.2.2.2.2.2.2.2.2.2.2.2.2.1 0).toInt := p20
    have p21 : (u.2.2.2.2.2.2.2.2.2.2.2.2.2.2.2.2.2.2.2.2.2.2.2.2.2.1 0).toInt ≤ 16 := p21
    have p22 : 0 ≤ (u.2.2.2.2.2.2.2.2.2.2.2.2.2.2.2.2.2.2.2.2.2.2.2.2.2.1 1).toInt := p22
    have p23 : (u.2.2.2.2.2.2.2.2.2.2.2.2.2.2.2.2.2.2.2.2.2.2.2.2.2.1 1).toInt ≤ 16 := p23
    have p24 : 0 ≤ u.2.2.2.2.2.2.2.2.2.2.2.2.2.2.2.2.2.2.2.2.2.2.2.2.2.2.2.2.2.2.2.toInt := p24
    have p25 : u.2.2.2.2.2.2.2.2.2.2.2.2.2.2.2.2.2.2.2.2.2.2.2.2.2.2.2.2.2.2.2.toInt ≤ 6 := p25
    exact ⟨mr, (upd (upd (upd (upd (upd (upd (upd (upd (upd (upd (upd (upd (upd (upd mi 0 u.1) 66 u.2.1) 67 u.2.2.1) 68 u.2.2.2.2.1) 6 u.2.2.2.2.2.1) 12 u.2.2.2.2.2.2.2.2.2.2.2.1) 13 u.2.2.2.2.2.2.2.2.2.2.2.2.1) 14 u.2.2.2.2.2.2.2.2.2.2.2.2.2.1) 15 u.2.2.2.2.2.2.2.2.2.2.2.2.2.2.1) 17 u.2.2.2.2.2.2.2.2.2.2.2.2.2.2.2.1) 42 u.2.2.2.2.2.2.2.2.2.2.2.2.2.2.2.2.2.2.1) 44 u.2.2.2.2.2.2.2.2.2.2.2.2.2.2.2.2.2.2.2.2.1) 49 u.2.2.2.2.2.2.2.2.2.2.2.2.2.2.2.2.2.2.2.2.2.2.1) 3 u.2.2.2.2.2.2.2.2.2.2.2.2.2.2.2.2.2.2.2.2.2.2.2.2.2.2.2.2.2.2.2), (va_up (va_up (va_up (va_up (va_up (va_up (va_up (va_up (va_up (va_up (va_up (va_up (va_up (va_up (va_up (va_up (va_up (va_up mf 1 u.2.2.2.1) 7 u.2.2.2.2.2.2.1) 8 u.2.2.2.2.2.2.2.1) 9 u.2.2.2.2.2.2.2.2.1) 10 u.2.2.2.2.2.2.2.2.2.1) 11 u.2.2.2.2.2.2.2.2.2.2.1) 18 u.2.2.2.2.2.2.2.2.2.2.2.2.2.2.2.2.1) 19 u.2.2.2.2.2.2.2.2.2.2.2.2.2.2.2.2.2.1) 43 u.2.2.2.2.2.2.2.2.2.2.2.2.2.2.2.2.2.2.2.1) 45 u.2.2.2.2.2.2.2.2.2.2.2.2.2.2.2.2.2.2.2.2.2.1) 50 u.2.2.2.2.2.2.2.2.2.2.2.2.2.2.2.2.2.2.2.2.2.2.2.1) 16 u.2.2.2.2.2.2.2.2.2.2.2.2.2.2.2.2.2.2.2.2.2.2.2.2.1) 27 u.2.2.2.2.2.2.2.2.2.2.2.2.2.2.2.2.2.2.2.2.2.2.2.2.2.1) 28 u.2.2.2.2.2.2.2.2.2.2.2.2.2.2.2.2.2.2.2.2.2.2.2.2.2.2.1) 29 u.2.2.2.2.2.2.2.2.2.2.2.2.2.2.2.2.2.2.2.2.2.2.2.2.2.2.2.1) 30 u.2.2.2.2.2.2.2.2.2.2.2.2.2.2.2.2.2.2.2.2.2.2.2.2.2.2.2.2.1) 31 u.2.2.2.2.2.2.2.2.2.2.2.2.2.2.2.2.2.2.2.2.2.2.2.2.2.2.2.2.2.1) 32 u.2.2.2.2.2.2.2.2.2.2.2.2.2.2.2.2.2.2.2.2.2.2.2.2.2.2.2.2.2.2.1), mg, rfl, ⟨(by show KR (TIM n.1 _) _ _; rw [TIM_0 (by decide +kernel)]; exact KR_give hn.1 p9 f0 rfl), (by show KS (BIM n.2 _) _ _; rw [BIM_0 (by decide +kernel)]; exact KS_give hn.2 p9 (by have q1 := f0; have q2 := f1; rcases q1 with ⟨y1, y2, y3, -⟩ | ⟨y1, y2, y3, -⟩ <;> rcases q2 with ⟨z1, z2⟩ | ⟨z1, z2⟩ <;> first | exact Or.inl ⟨y1, y2, y3, z2⟩ | exact Or.inr ⟨y1, y2, y3, z2⟩ | exact absurd z1 y1 | exact absurd y1 z1) rfl)⟩, ⟨(show (0 ≤ u.2.2.2.2.2.1.toInt ∧ u.2.2.2.2.2.1.toInt ≤ 10) from by omega), (show (0 ≤ (u.2.2.2.1 2).toInt ∧ (u.2.2.2.1 2).toInt ≤ 150) from by omega), (show (0 ≤ (u.2.2.2.1 3).toInt ∧ (u.2.2.2.1 3).toInt ≤ 9) from by omega), (show (0 ≤ (u.2.2.2.1 5).toInt ∧ (u.2.2.2.1 5).toInt ≤ 200) from by omega), (show (0 ≤ u.2.2.2.2.2.2.2.2.2.2.2.2.2.2.2.2.2.2.2.2.1.toInt ∧ u.2.2.2.2.2.2.2.2.2.2.2.2.2.2.2.2.2.2.2.2.1.toInt ≤ 10) from by omega), (show (0 ≤ u.2.2.2.2.2.2.2.2.2.2.2.2.2.2.2.2.2.2.1.toInt ∧ u.2.2.2.2.2.2.2.2.2.2.2.2.2.2.2.2.2.2.1.toInt ≤ 40) from by omega), (show (0 ≤ (u.2.2.2.2.2.2.2.2.2.2.2.2.2.2.2.2.2.2.2.2.2.2.2.2.2.1 0).toInt ∧ (u.2.2.2.2.2.2.2.2.2.2.2.2.2.2.2.2.2.2.2.2.2.2.2.2.2.1 0).toInt ≤ 16) from by omega), (show (0 ≤ (u.2.2.2.2.2.2.2.2.2.2.2.2.2.2.2.2.2.2.2.2.2.2.2.2.2.1 1).toInt ∧ (u.2.2.2.2.2.2.2.2.2.2.2.2.2.2.2.2.2.2.2.2.2.2.2.2.2.1 1).toInt ≤ 16) from by omega), (show (0 ≤ u.2.2.2.2.2.2.2.2.2.2.2.2.2.2.2.2.2.2.2.2.2.2.1.toInt ∧ u.2.2.2.2.2.2.2.2.2.2.2.2.2.2.2.2.2.2.2.2.2.2.1.toInt ≤ 200) from by omega), (show (-29 ≤ u.2.2.2.2.2.2.2.2.2.2.2.2.2.2.1.toInt ∧ u.2.2.2.2.2.2.2.2.2.2.2.2.2.2.1.toInt ≤ 69) from by omega), (show (0 ≤ u.2.2.2.2.2.2.2.2.2.2.2.2.2.2.2.1.toInt ∧ u.2.2.2.2.2.2.2.2.2.2.2.2.2.2.2.1.toInt ≤ 8) from by omega), (show (0 ≤ u.2.2.2.2.2.2.2.2.2.2.2.2.2.2.2.2.2.2.2.2.2.2.2.2.2.2.2.2.2.2.2.toInt ∧ u.2.2.2.2.2.2.2.2.2.2.2.2.2.2.2.2.2.2.2.2.2.2.2.2.2.2.2.2.2.2.2.toInt ≤ 6) from by omega), r12, r13, l5, l0, l2, l3, l1, l4, r20, l6, a0⟩⟩
  · skip
    obtain rfl : z_taken = 1 := Int32.toInt_inj.mp (by rw [hz]; decide +kernel)
    refine ref_i (s_image1B l D cI cJ sz b mr mi mf mg r0 r1 r2 r3 r4 r5 r6.1 r6.2 r7.1 r7.2 r8 r9 r10 r11 r22 r15 r18 r16 r17 r19) ?_
    intro r u hp
    obtain ⟨p0, p1, l0, f0, f1⟩ := hp
    have p0 : r.toInt = 1 := p0
    have p1 : u.2.2.1.toInt = 1 := p1
    exact ⟨mr, (upd (upd (upd (upd mi 0 u.1) 66 u.2.1) 67 u.2.2.1) 68 u.2.2.2.1), (va_up mf 69 u.2.2.2.2), mg, rfl, ⟨(by show KR (TIM n.1 _) _ _; rw [TIM_1 (by decide +kernel)]; exact KR_take hn.1 r0.2 rfl rfl rfl p1 f0.1 f0.2.1 f0.2.2), (by show KS (BIM n.2 _) _ _; rw [BIM_1 (by decide +kernel)]; exact KS_take hn.2 r0.2 rfl rfl p1 f0.1 f1)⟩, ⟨r0, r1, r2, r3, r4, r5, r6, r7, r8, r9, r10, r11, r12, r13, r14, r15, r16, r17, r18, r19, r20, l0, r22⟩⟩
