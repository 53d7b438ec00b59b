theorem xw_ge0 {x : Int32} (h : 0 ≤ x) : ¬ x < 0 := by simp only [p1_le, p1_lt, p1_0] at h ⊢; omega
theorem xw_ge1 {x : Int32} (h : 1 ≤ x) : ¬ x < 0 := by simp only [p1_le, p1_lt, p1_0, p1_1] at h ⊢; omega
theorem xw_ge1p {x : Int32} {j : Nat} (e : x = nI j) (h : 1 ≤ x) : 0 < j := by
  rcases Nat.eq_zero_or_pos j with q | q
  · rw [e, q] at h; exact absurd h (by decide)
  · exact q
