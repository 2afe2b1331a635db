theorem hb_thrn {s : SB} {t : Int32} (h : ¬ f_X2_refusalOfThread s t = 1) : vp_in t 8 := by
  unfold f_X2_refusalOfThread at h
  by_cases h0 : t < 0
  · rw [if_pos h0] at h
    exact absurd rfl h
  · rw [if_neg h0] at h
    by_cases h1 : t < 8
    · exact in_of h0 (ltn h1) rfl (by decide)
    · rw [if_neg h1] at h
      exact absurd rfl h
theorem hb_thr {s : SB} {t : Int32} (h : f_X2_refusalOfThread s t = 0) : vp_in t 8 := hb_thrn (fun e => absurd (h.symm.trans e) (by decide))
theorem hb_part {s : SB} {t k : Int32} (h : f_X2_refusalOfPart s t k = 0) : vp_in t 8 := by
  unfold f_X2_refusalOfPart at h
  by_cases h0 : k < 0
  · rw [if_pos h0] at h
    exact absurd h (by decide)
  · rw [if_neg h0] at h
    by_cases h1 : k ≤ 5
    · rw [if_pos h1] at h
      exact hb_thr h
    · rw [if_neg h1] at h
      exact absurd h (by decide)
theorem hb_set {s : SB} {t k : Int32} {b : Int64} (h : f_X2_refusalOfSetting s t k b = 0) : vp_in t 8 := by
  unfold f_X2_refusalOfSetting at h
  dsimp only at h
  by_cases h0 : f_X2_refusalOfPart s t k = 0
  · exact hb_part h0
  · rw [if_neg h0] at h
    exact absurd h h0
theorem hb_str {s : SB} {t : Int32} (h : f_X2_refusalOfStringing s t = 0) : vp_in t 8 := by
  unfold f_X2_refusalOfStringing at h
  dsimp only at h
  by_cases h0 : f_X2_refusalOfThread s t = 2
  · exact hb_thrn (fun e => absurd (h0.symm.trans e) (by decide))
  · rw [if_neg h0] at h
    by_cases h1 : f_X2_refusalOfThread s t = 0
    · exact hb_thr h1
    · rw [if_neg h1] at h
      exact absurd h h1
theorem hb_wants {n : Int32} (h : n = 1 ∨ n = 2 ∨ n = 7 ∨ n = 9 ∨ n = 11) : ¬ f_X2_wantsOther n = 0 := by
  rcases h with rfl | rfl | rfl | rfl | rfl <;> decide
theorem hb_move {s : SB} {n t u : Int32} (h : f_X2_refusalOfMove s n t u = 0) : vp_in t 8 ∧ (n = 1 ∨ n = 2 ∨ n = 7 ∨ n = 9 ∨ n = 11 → vp_in u 8) := by
  unfold f_X2_refusalOfMove at h
  dsimp only at h
  by_cases h0 : n < 0
  · rw [if_pos h0] at h
    exact absurd h (by decide)
  · rw [if_neg h0] at h
    by_cases h1 : n ≤ 15
    · rw [if_pos h1] at h
      by_cases h2 : f_X2_refusalOfThread s t = 0
      · refine ⟨hb_thr h2, fun hn => ?_⟩
        rw [if_pos h2, if_neg (hb_wants hn)] at h
        by_cases h3 : f_X2_refusalOfThread s u = 0
        · exact hb_thr h3
        · refine hb_thrn (s := s) (fun e => ?_)
          rw [if_neg h3, e] at h
          exact absurd h (by decide)
      · rw [if_neg h2] at h
        exact absurd h h2
    · rw [if_neg h1] at h
      exact absurd h (by decide)
