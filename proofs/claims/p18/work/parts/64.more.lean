def WZ_Es (cI cJ : ClassId) (mr : Nat → Nat) (mi : Nat → Int32) (mf : Nat → Nat → Int32) (mg : Nat → Nat → Int64) : va_W := []
