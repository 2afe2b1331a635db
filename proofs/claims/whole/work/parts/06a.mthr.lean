theorem hm_thr {t : Int32} (h : ¬ f_X3_isThread t = 0) : vp_in t 8 := by
  unfold f_X3_isThread at h
  by_cases h0 : t < 0
  · rw [if_pos h0] at h
    exact absurd rfl h
  · rw [if_neg h0] at h
    by_cases h1 : 8 ≤ t
    · rw [if_pos h1] at h
      exact absurd rfl h
    · exact in_of h0 h1 rfl (by decide)
