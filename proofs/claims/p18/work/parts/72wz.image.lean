set_option maxHeartbeats 8000000 in
set_option maxRecDepth 100000 in
theorem k_image (l : Launch) (D : va_G) (cI cJ cN : ClassId) (sz : Nat) (ad av : Nat → Nat) (tf : Value) (t1 t2 : Nat) (n : NB) (a : Nat) (ws : va_W) (hc : CW cI cJ cN ad n a ws) (z_taken : Int32) (hz : z_taken.toInt = 0 ∨ z_taken.toInt = 1) : Met l yX11_image (Cond.code yX11_image cX11_image 2 (some .boolean) :: GW) ({ frames := 11, cells := 50, slots := 2803, locals := 263 } : Room) (va_Pc [.ref a, .int z_taken] (PW D cI cJ sz ws (xC D cI cJ cN ad av tf t1 t2 (va_A ws sz)))) (va_Qi (fun (r : Int32) (w : va_W) => CW cI cJ cN ad (TBi n z_taken.toInt) a w) (fun w => QW D cI cJ (va_A ws sz) w) (va_A ws sz)) 50 2803 (va_A ws sz) := by
  obtain ⟨bP, bR, bK, mr, mi, mf, mg, rfl, rfl, hn, hI⟩ := hc
  cases bP
  · skip
    cases bR
    · skip
      cases bK
      · skip
        rcases hz with hz | hz
        · exact ki_000_0 l D cI cJ cN sz ad av tf t1 t2 n mr mi mf mg hn hI z_taken hz
        · exact ki_000_1 l D cI cJ cN sz ad av tf t1 t2 n mr mi mf mg hn hI z_taken hz
      · skip
        rcases hz with hz | hz
        · exact ki_001_0 l D cI cJ cN sz ad av tf t1 t2 n mr mi mf mg hn hI z_taken hz
        · exact ki_001_1 l D cI cJ cN sz ad av tf t1 t2 n mr mi mf mg hn hI z_taken hz
    · skip
      cases bK
      · skip
        rcases hz with hz | hz
        · exact ki_010_0 l D cI cJ cN sz ad av tf t1 t2 n mr mi mf mg hn hI z_taken hz
        · exact ki_010_1 l D cI cJ cN sz ad av tf t1 t2 n mr mi mf mg hn hI z_taken hz
      · skip
        rcases hz with hz | hz
        · exact ki_011_0 l D cI cJ cN sz ad av tf t1 t2 n mr mi mf mg hn hI z_taken hz
        · exact ki_011_1 l D cI cJ cN sz ad av tf t1 t2 n mr mi mf mg hn hI z_taken hz
  · skip
    cases bR
    · skip
      cases bK
      · skip
        rcases hz with hz | hz
        · exact ki_100_0 l D cI cJ cN sz ad av tf t1 t2 n mr mi mf mg hn hI z_taken hz
        · exact ki_100_1 l D cI cJ cN sz ad av tf t1 t2 n mr mi mf mg hn hI z_taken hz
      · skip
        rcases hz with hz | hz
        · exact ki_101_0 l D cI cJ cN sz ad av tf t1 t2 n mr mi mf mg hn hI z_taken hz
        · exact ki_101_1 l D cI cJ cN sz ad av tf t1 t2 n mr mi mf mg hn hI z_taken hz
    · skip
      cases bK
      · skip
        rcases hz with hz | hz
        · exact ki_110_0 l D cI cJ cN sz ad av tf t1 t2 n mr mi mf mg hn hI z_taken hz
        · exact ki_110_1 l D cI cJ cN sz ad av tf t1 t2 n mr mi mf mg hn hI z_taken hz
      · skip
        rcases hz with hz | hz
        · exact ki_111_0 l D cI cJ cN sz ad av tf t1 t2 n mr mi mf mg hn hI z_taken hz
        · exact ki_111_1 l D cI cJ cN sz ad av tf t1 t2 n mr mi mf mg hn hI z_taken hz
