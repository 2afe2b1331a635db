theorem hm_wants {n : Int32} (h : n = 1 ∨ n = 2 ∨ n = 7 ∨ n = 9 ∨ n = 11) : ¬ f_X3_wantsOther n = 0 := by
  rcases h with rfl | rfl | rfl | rfl | rfl <;> decide
theorem hm_of {s : SM} {n t u : Int32} (h : f_X3_lackOf s n t u ≤ 0) : vp_in t 8 ∧ (n = 1 ∨ n = 2 ∨ n = 7 ∨ n = 9 ∨ n = 11 → vp_in u 8) := by
  unfold f_X3_lackOf at h
  by_cases h0 : n < 0
  · rw [if_pos h0] at h
    exact absurd h (by decide)
  · rw [if_neg h0] at h
    by_cases h1 : n ≤ 15
    · rw [if_pos h1] at h
      by_cases h2 : f_X3_lack s t ≤ 0
      · refine ⟨hm_lack h2, fun hn => ?_⟩
        rw [if_pos h2, if_neg (hm_wants hn)] at h
        by_cases h3 : f_X3_lack s u ≤ 0
        · exact hm_lack h3
        · rw [if_neg h3] at h
          unfold f_X3_lack at h h3
          by_cases h4 : f_X3_isThread u = 0
          · rw [if_pos h4] at h
            exact absurd h (by decide)
          · exact hm_thr h4
      · rw [if_neg h2] at h
        exact absurd h h2
    · rw [if_neg h1] at h
      exact absurd h (by decide)
