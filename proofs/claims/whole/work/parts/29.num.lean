theorem okU {f : Nat → Int64} {t : Nat} {x : Int64} (h : ∀ k, okL (f k)) (hx : okL x) : ∀ k, okL (vp_updL f t x k) := by
  intro k
  unfold vp_updL
  split
  · exact hx
  · exact h k
theorem nu_does (m : SM) (n t u : Int32) (hn : numC m.1) : numC (f_X3_does m n t u).1 := by
  obtain ⟨hL, hO, hH, hT⟩ := hn
  unfold f_X3_does
  dsimp only
  by_cases c0 : n = 0
  · rw [if_pos c0, r_flip]; exact ⟨okU hL (okL_amt (hL t.toNatClampNeg)), hO, hH, hT⟩
  rw [if_neg c0]
  by_cases c1 : n = 1
  · rw [if_pos c1, r_stretch]; exact ⟨okU hL (okL_gr (hL t.toNatClampNeg) (hL u.toNatClampNeg)), hO, hH, hT⟩
  rw [if_neg c1]
  by_cases c2 : n = 2
  · rw [if_pos c2, r_ease]; exact ⟨okU hL (okL_le (hL t.toNatClampNeg) (hL u.toNatClampNeg)), hO, hH, hT⟩
  rw [if_neg c2]
  by_cases c3 : n = 3
  · rw [if_pos c3, c3]; exact ⟨okU hL (okL_down (hL t.toNatClampNeg)), hO, hH, hT⟩
  rw [if_neg c3]
  by_cases c4 : n = 4
  · rw [if_pos c4, c4]; exact ⟨okU hL (okL_up (hL t.toNatClampNeg)), hO, hH, hT⟩
  rw [if_neg c4]
  by_cases c5 : n = 5
  · rw [if_pos c5, c5]; exact ⟨okU hL (okL_near (hL t.toNatClampNeg)), hO, hH, hT⟩
  rw [if_neg c5]
  by_cases c6 : n = 6
  · rw [if_pos c6]
    unfold f_X3_lean
    dsimp only
    have e2 : (gM_L m t.toNatClampNeg &&& f_X3_sign 52) ||| f_X3_one 52 = f_X1_withSign 4607182418800017408 (gM_L m t.toNatClampNeg) := by
      rw [Int64.or_comm]; rfl
    rw [e2]
    by_cases d1 : f_X3_amount (gM_L m t.toNatClampNeg) 52 = 0
    · rw [if_pos d1]
      by_cases d2 : f_X3_amount (f_X3_thin (gM_P m t.toNatClampNeg)) 23 = 0
      · rw [if_pos d2]; exact ⟨hL, hO, hH, hL t.toNatClampNeg⟩
      · rw [if_neg d2]; exact ⟨hL, hO, hH, hL t.toNatClampNeg⟩
    · rw [if_neg d1]
      by_cases d2 : f_X3_amount (f_X3_thin (gM_P m t.toNatClampNeg)) 23 = 0
      · rw [if_pos d2]; exact ⟨hL, hO, hH, okL_one (g := gM_L m t.toNatClampNeg)⟩
      · rw [if_neg d2]; exact ⟨hL, hO, hH, okL_one (g := gM_L m t.toNatClampNeg)⟩
  rw [if_neg c6]
  by_cases c7 : n = 7
  · rw [if_pos c7]; exact ⟨okU hL (okL_sgn (g := gM_L m u.toNatClampNeg) (hL t.toNatClampNeg)), hO, hH, hT⟩
  rw [if_neg c7]
  by_cases c8 : n = 8
  · rw [if_pos c8]; exact ⟨okU hL (okL_le (okL_gr (hL t.toNatClampNeg) (hO t.toNatClampNeg)) (hH t.toNatClampNeg)), hO, hH, hT⟩
  rw [if_neg c8]
  by_cases c9 : n = 9
  · rw [if_pos c9]; exact ⟨hL, okU hO (okL_le (hL t.toNatClampNeg) (hL u.toNatClampNeg)), okU hH (okL_gr (hL t.toNatClampNeg) (hL u.toNatClampNeg)), hT⟩
  rw [if_neg c9]
  by_cases c10 : n = 10
  · rw [if_pos c10]
    have hg : okL (f_X3_greater (gM_ti m) (f_X3_amount (gM_L m t.toNatClampNeg) 52)) := okL_gr (b := gM_ti m) (g := f_X1_amount (gM_L m t.toNatClampNeg)) hT (okL_amt (hL t.toNatClampNeg))
    unfold f_X3_gather
    dsimp only
    repeat' (first | exact ⟨hL, hO, hH, hg⟩ | split)
  rw [if_neg c10]
  by_cases c11 : n = 11
  · rw [if_pos c11]; exact ⟨okU (okU hL (hL u.toNatClampNeg)) (hL t.toNatClampNeg), okU (okU hO (hO u.toNatClampNeg)) (hO t.toNatClampNeg), okU (okU hH (hH u.toNatClampNeg)) (hH t.toNatClampNeg), hT⟩
  rw [if_neg c11]
  by_cases c12 : n = 12
  · rw [if_pos c12]
    unfold f_X3_climb
    repeat' (first | exact ⟨hL, hO, hH, hT⟩ | split)
  rw [if_neg c12]
  by_cases c13 : n = 13
  · rw [if_pos c13]; exact ⟨okU hL (okL_half (hL t.toNatClampNeg)), hO, hH, hT⟩
  rw [if_neg c13]
  by_cases c14 : n = 14
  · rw [if_pos c14]; exact ⟨okU hL (okL_twice (b := gM_L m t.toNatClampNeg)), hO, hH, hT⟩
  rw [if_neg c14]
  exact ⟨okU hL hT, hO, hH, hT⟩
/-- one move of each side -/
theorem mv_both (s : SB) (m : SM) (hc : s.1 = m.1) (n t u : Int32) (h0 : ¬ n < 0) (h1 : n ≤ 15) (ht : vp_in t 8) (hu : n = 1 ∨ n = 2 ∨ n = 7 ∨ n = 9 ∨ n = 11 → vp_in u 8) (hn : numC s.1) :
    ∃ (c' : Cor) (a b d e : Int32), f_X2_perform s n t u = NB s c' a b d e ∧ (f_X3_does (wS m) n t u).1 = c' ∧ numC c' ∧ ts (nA (f_X3_does (wS m) n t u)) 8 = ((a + b) + d) + e ∧ ts (nL (gM_L (f_X3_does (wS m) n t u)) (gM_LW (f_X3_does (wS m) n t u))) 8 = a ∧ ts (nN (gM_P (f_X3_does (wS m) n t u)) (gM_PW (f_X3_does (wS m) n t u))) 8 = b ∧ ts (nN (gM_K (f_X3_does (wS m) n t u)) (gM_KW (f_X3_does (wS m) n t u))) 8 = d ∧ ts (nL (gM_T (f_X3_does (wS m) n t u)) (gM_TW (f_X3_does (wS m) n t u))) 8 = e := by
  have hw : (wS m).1 = s.1 := hc.symm
  obtain ⟨a, b, d, e, e1, k1, k2, k3, k4⟩ := v_perform s s.1 (wS m) hw n t u h0 h1 ht hu hn
  rw [NB_0] at e1
  have e2 := sd_does (wS m) n t u
  have hnu := nu_does (wS m) n t u (by rw [hw]; exact hn)
  generalize f_X3_does (wS m) n t u = z at *
  have q1 : ts (nL (gM_L z) (gM_LW z)) 8 = a := by
    rw [k1]
    refine ts_congr (fun k hk => ?_) 8 (by decide)
    show neL (z.1.1.1 k) (z.2.2.2.2.2.2.2.1 k) = neL (z.1.1.1 k) (s.1.1.1 k)
    rw [e2, hc]
    exact congrArg (neL _) (cL8_at (gM_L m) (gM_LW m) k hk)
  have q2 : ts (nN (gM_P z) (gM_PW z)) 8 = b := by
    rw [k2]
    refine ts_congr (fun k hk => ?_) 8 (by decide)
    show neI (z.1.1.2.1 k) (z.2.2.2.2.2.2.2.2.1 k) = neI (z.1.1.2.1 k) (s.1.1.2.1 k)
    rw [e2, hc]
    exact congrArg (neI _) (cI8_at (gM_P m) (gM_PW m) k hk)
  have q3 : ts (nN (gM_K z) (gM_KW z)) 8 = d := by
    rw [k3]
    refine ts_congr (fun k hk => ?_) 8 (by decide)
    show neI (z.1.1.2.2.1 k) (z.2.2.2.2.2.2.2.2.2.1 k) = neI (z.1.1.2.2.1 k) (s.1.1.2.2.1 k)
    rw [e2, hc]
    exact congrArg (neI _) (cI8_at (gM_K m) (gM_KW m) k hk)
  have q4 : ts (nL (gM_T z) (gM_TW z)) 8 = e := by
    rw [k4]
    refine ts_congr (fun k hk => ?_) 8 (by decide)
    show neL (z.1.1.2.2.2.1 k) (z.2.2.2.2.2.2.2.2.2.2.1 k) = neL (z.1.1.2.2.2.1 k) (s.1.1.2.2.2.1 k)
    rw [e2, hc]
    exact congrArg (neL _) (cL8_at (gM_T m) (gM_TW m) k hk)
  refine ⟨z.1, a, b, d, e, e1, rfl, hnu, ?_, q1, q2, q3, q4⟩
  have q5 : ts (nA z) 8 = ts (nL (gM_L z) (gM_LW z)) 8 + ts (nN (gM_P z) (gM_PW z)) 8 + ts (nN (gM_K z) (gM_KW z)) 8 + ts (nL (gM_T z) (gM_TW z)) 8 := by
    rw [← ts_add, ← ts_add, ← ts_add]
  rw [q5, q1, q2, q3, q4]
