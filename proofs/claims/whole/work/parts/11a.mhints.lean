theorem hm_lack {s : SM} {t : Int32} (h : f_X3_lack s t ≤ 0) : vp_in t 8 := by
  unfold f_X3_lack at h
  by_cases h0 : f_X3_isThread t = 0
  · rw [if_pos h0] at h
    exact absurd h (by decide)
  · exact hm_thr h0
theorem hm_lack0 {s : SM} {t : Int32} (h : f_X3_lack s t = 0) : vp_in t 8 := hm_lack (s := s) (by rw [h]; decide)
theorem hm_ixk {x : Int32} {i : Nat} (h : ∃ j : Nat, j ≤ 40 ∧ x = nI j) (hn : ¬ x = 40) (hi : i ≤ 2) : ∃ j : Nat, j < 40 ∧ x = nI j ∧ vp_in (nI (3 * j + i)) 120 := by
  obtain ⟨j, hj, rfl⟩ := h
  have h40 : j ≠ 40 := fun e => hn (by rw [e]; rfl)
  exact ⟨j, by omega, rfl, nI_in (by omega) (by decide)⟩
theorem hm_ix0 {x : Int32} (h : ∃ j : Nat, j ≤ 40 ∧ x = nI j) (hn : ¬ x = 40) : vp_in (3 * x) 120 := by
  obtain ⟨j, hj, rfl, hv⟩ := hm_ixk (i := 0) h hn (by decide)
  rw [show (3 : Int32) * nI j = nI (3 * j + 0) from pk_mul 3 j]
  exact hv
theorem hm_ix1 {x : Int32} (h : ∃ j : Nat, j ≤ 40 ∧ x = nI j) (hn : ¬ x = 40) : vp_in (3 * x + 1) 120 := by
  obtain ⟨j, hj, rfl, hv⟩ := hm_ixk (i := 1) h hn (by decide)
  rw [show (3 : Int32) * nI j = nI (3 * j) from pk_mul 3 j, show nI (3 * j) + 1 = nI (3 * j + 1) from nI_1 _]
  exact hv
theorem hm_ix2 {x : Int32} (h : ∃ j : Nat, j ≤ 40 ∧ x = nI j) (hn : ¬ x = 40) : vp_in (3 * x + 2) 120 := by
  obtain ⟨j, hj, rfl, hv⟩ := hm_ixk (i := 2) h hn (by decide)
  rw [show (3 : Int32) * nI j = nI (3 * j) from pk_mul 3 j, show nI (3 * j) + 2 = nI (3 * j + 2) from nI_add _ 2]
  exact hv
theorem hm_dn {k : Int32} (h0 : ¬ k < 0) (h1 : k ≤ 4) (h2 : ¬ k = 0) : vp_in (k - 1) 4 := by
  obtain ⟨j, hj, rfl⟩ := nI_of2 (n := 4) (by decide) h0 h1
  match j, hj, h2 with
  | 0, _, h2 => exact absurd rfl h2
  | j + 1, hj, _ =>
    rw [nI_pred]
    exact nI_in (by omega) (by decide)
