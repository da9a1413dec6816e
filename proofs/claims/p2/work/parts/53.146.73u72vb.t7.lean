theorem T7u_1 {T : N7} : (T7u T).1 = T.1 := by unfold T7u; split <;> rfl
theorem T7f_1 {T : N7} {a b c d e : Int32} : (T7f T a b c d e).1 = T.1 := by unfold T7f; split <;> rfl
theorem T7e_1 {T : N7} {k : Int} : (T7e T k).1 = T.1 := by unfold T7e; split <;> rfl
