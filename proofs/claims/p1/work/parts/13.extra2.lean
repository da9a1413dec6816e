theorem sp_set_out {w v : Int32} (h : w < 0 ∨ 10 < w) : sp_set w v = 0 := by
  have hne : ∀ c : Int32, 0 ≤ c.toInt → c.toInt ≤ 10 → ¬ w = c := by
    intro c h1 h2 e
    subst e
    rcases h with h | h
    · have := f_lt h
      have k : (0 : Int32).toInt = 0 := by decide +kernel
      omega
    · have := f_lt h
      have k : (10 : Int32).toInt = 10 := by decide +kernel
      omega
  unfold sp_set
  rw [if_neg (hne 0 (by decide +kernel) (by decide +kernel)), if_neg (hne 1 (by decide +kernel) (by decide +kernel)), if_neg (hne 2 (by decide +kernel) (by decide +kernel)), if_neg (hne 3 (by decide +kernel) (by decide +kernel)), if_neg (hne 4 (by decide +kernel) (by decide +kernel))]
theorem m1_int {n : Int32} (h : ¬ n < 1) : (n - 1).toInt = n.toInt - 1 := by
  have h0 : ¬ n < 0 := b_nlt (by
    have := f_nlt h
    have k0 : (0 : Int32).toInt = 0 := by decide +kernel
    have k1 : (1 : Int32).toInt = 1 := by decide +kernel
    omega)
  obtain ⟨j, hj, rfl⟩ := nI_of h0
  have h1 := f_nlt h
  have k1 : (1 : Int32).toInt = 1 := by decide +kernel
  rw [nI_toInt hj, k1] at h1
  obtain ⟨i, rfl⟩ : ∃ i, j = i + 1 := ⟨j - 1, by omega⟩
  rw [nI_pred, nI_toInt (by omega), nI_toInt hj]
  omega
theorem been_no {n k v : Int32} (ev : v = n - 1) (h1 : ¬ n < 1) (h : v < k) : (-1 : Int32) = sp_been n k := by
  subst ev
  have h2 := f_lt h
  rw [m1_int h1] at h2
  have h3 : ¬ k < n := b_nlt (by omega)
  unfold sp_been
  rw [if_neg (fun q => h3 q.2.2.2)]
theorem been_ok {n k v : Int32} (ev : v = n - 1) (h1 : ¬ n < 1) (h2 : ¬ 10 < n) (h3 : ¬ k < 0) (h : ¬ v < k) : (0 : Int32) = sp_been n k := by
  subst ev
  have h4 := f_nlt h
  rw [m1_int h1] at h4
  have h5 : k < n := b_lt (by omega)
  unfold sp_been
  rw [if_pos ⟨h1, h2, h3, h5⟩]
