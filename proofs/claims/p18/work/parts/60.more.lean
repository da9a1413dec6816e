def WZ_Tape (cI cJ : ClassId) (ad : Nat → Nat) (mr : Nat → Nat) (mi : Nat → Int32) (mf : Nat → Nat → Int32) (mg : Nat → Nat → Int64) : va_W := [(mr 0, .inr (8, [.ref (mr 1), .int (mi 2), .ref (ad (ti (mi 3))), .int (mi 4), .int (mi 5), .int (mi 6), .int (mi 7), .int (mi 8), .int (mi 9)])), (mr 1, .inl (cI, 400, .inl (mf 1)))]
def WZ_Et1 (cI cJ : ClassId) (mr : Nat → Nat) (mi : Nat → Int32) (mf : Nat → Nat → Int32) (mg : Nat → Nat → Int64) : va_W := []
def WZ_Et2 (cI cJ : ClassId) (mr : Nat → Nat) (mi : Nat → Int32) (mf : Nat → Nat → Int32) (mg : Nat → Nat → Int64) : va_W := []
